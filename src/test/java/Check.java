/** Counts answers that are not as due and says which they are. */
final class Check {
    static final Class<? extends RuntimeException> INDEX = IndexOutOfBoundsException.class;
    static final Class<? extends RuntimeException> TURN = IllegalStateException.class;
    static final Class<? extends RuntimeException> RANGE = IllegalArgumentException.class;
    static final Class<? extends RuntimeException> MEANING = UnsupportedOperationException.class;

    private static int wrong = 0;
    private static int asked = 0;

    interface Call {
        void make();
    }

    private Check() {
    }

    static void due(String what, long got, long want) {
        asked++;
        if (got != want) {
            wrong++;
            System.out.println(what + " answered " + got + ", due is " + want);
        }
    }

    static void due(String what, boolean got, boolean want) {
        due(what, got ? 1 : 0, want ? 1 : 0);
    }

    /** The very class is asked for: a subclass is what the machine itself would throw. */
    static void refused(String what, Class<? extends RuntimeException> want, Call call) {
        asked++;
        Class<?> got = null;
        try {
            call.make();
        } catch (RuntimeException e) {
            got = e.getClass();
        }
        if (got != want) {
            wrong++;
            System.out.println(what + " threw " + got + ", due is " + want);
        }
    }

    /** The order as one number in base ten, its first coil first; -1 without an order. */
    static long orderOf(WidthCampaigns x, int coils) {
        long digits = 0;
        try {
            for (int place = 0; place < coils; place++) {
                digits = digits * 10 + x.order(place);
            }
        } catch (IllegalStateException e) {
            return -1;
        }
        return digits;
    }

    /** A digit 1 for each place with a change ahead of it, 0 for the others. */
    static long changesOf(WidthCampaigns x, int coils) {
        long digits = 0;
        for (int place = 0; place < coils; place++) {
            digits = digits * 10 + (x.change(place) ? 1 : 0);
        }
        return digits;
    }

    /** The number that tells an order, from its coils. */
    static long packed(int... coils) {
        long told = 0;
        for (int place = 0; place < coils.length; place++) {
            told |= (long) coils[place] << (4 * place);
        }
        return told;
    }

    /** Coils of these widths, alike in all else: thickness 1, hardness 0, ten kilometres. */
    static WidthCampaigns ofWidths(int... widths) {
        WidthCampaigns x = new WidthCampaigns();
        for (int width : widths) {
            x.coil(width, 1, 0, 10);
        }
        return x;
    }

    /** Coils of these kilometres, alike in all else; a change costs ten cents, the wear is as told. */
    static WidthCampaigns ofKilometres(int wear, int... kilometres) {
        WidthCampaigns x = new WidthCampaigns();
        for (int each : kilometres) {
            x.coil(5, 1, 0, each);
        }
        x.rules(0, wear, 10, 0);
        return x;
    }

    /** Coils of these hardnesses, alike in all else. */
    static WidthCampaigns ofHardnesses(int... hardnesses) {
        WidthCampaigns x = new WidthCampaigns();
        for (int hard : hardnesses) {
            x.coil(5, 1, hard, 1);
        }
        return x;
    }

    /** That the order and the search are still there, or that both are gone. */
    static void stillThere(String what, WidthCampaigns x, boolean want) {
        if (want) {
            due(what + ": told(0) still answers", x.told(0) >= 0, true);
            due(what + ": proved still answers", x.proved(), true);
        } else {
            refused(what + ": the order is gone", TURN, () -> x.told(0));
            refused(what + ": the search is gone", TURN, () -> x.proved());
        }
    }

    static void finish(String name) {
        System.out.println(name + ": " + asked + " asked, " + wrong + " not as due");
        if (wrong != 0 || asked == 0) {
            System.exit(1);
        }
    }
}

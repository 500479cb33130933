/** Counts answers that are not as due and says which they are. */
final class Check {
    static final Class<? extends RuntimeException> INDEX = IndexOutOfBoundsException.class;
    static final Class<? extends RuntimeException> TURN = IllegalStateException.class;
    static final Class<? extends RuntimeException> RANGE = IllegalArgumentException.class;
    static final Class<? extends RuntimeException> MEANING = UnsupportedOperationException.class;

    private static int wrong = 0;
    private static int asked = 0;

    interface Call {
        void make();
    }

    interface Question {
        long ask();
    }

    private Check() {
    }

    static void due(String what, long got, long want) {
        asked++;
        if (got != want) {
            wrong++;
            System.out.println(what + " answered " + got + ", due is " + want);
        }
    }

    static void due(String what, boolean got, boolean want) {
        due(what, got ? 1 : 0, want ? 1 : 0);
    }

    /** The very class is asked for: a subclass is what the machine itself would throw. */
    static void refused(String what, Class<? extends RuntimeException> want, Call call) {
        asked++;
        Class<?> got = null;
        try {
            call.make();
        } catch (RuntimeException e) {
            got = e.getClass();
        }
        if (got != want) {
            wrong++;
            System.out.println(what + " threw " + got + ", due is " + want);
        }
    }

    /** A call that is refused, and that leaves all that can be asked as it was. */
    static void refusedAndKept(String what, Class<? extends RuntimeException> want, WidthCampaigns x, Call call) {
        String before = allAnswers(x);
        refused(what, want, call);
        same(what + ", what stands behind it", allAnswers(x), before);
    }

    static void same(String what, String got, String want) {
        asked++;
        if (!got.equals(want)) {
            wrong++;
            System.out.println(what + " is\n  " + got + "\ndue is\n  " + want);
        }
    }

    /** What every call that only asks answers now, refusals by their names. */
    static String allAnswers(WidthCampaigns x) {
        StringBuilder all = new StringBuilder("bound ").append(x.bound());
        all.append(" proved ").append(answer(() -> x.proved() ? 1 : 0)).append(" told");
        for (int what = -1; what <= 3; what++) {
            int its = what;
            all.append(' ').append(answer(() -> x.told(its)));
        }
        for (int number = -1; number <= 9; number++) {
            int its = number;
            all.append(" | ").append(answer(() -> x.order(its)));
            all.append(' ').append(answer(() -> x.change(its) ? 1 : 0)).append(" jumps");
            for (int other = -1; other <= 9; other++) {
                int another = other;
                all.append(' ').append(answer(() -> x.jump(its, another)));
            }
        }
        return all.toString();
    }

    private static String answer(Question question) {
        try {
            return Long.toString(question.ask());
        } catch (RuntimeException e) {
            return e.getClass().getSimpleName();
        }
    }

    /** That an order, a search or both were there and are gone: every call that needs one says so. */
    static void allGone(String what, WidthCampaigns x) {
        refused(what + ": order", TURN, () -> x.order(0));
        refused(what + ": change", TURN, () -> x.change(0));
        for (int each = 0; each <= 2; each++) {
            int its = each;
            refused(what + ": told", TURN, () -> x.told(its));
        }
        refused(what + ": improve", TURN, () -> x.improve(0));
        refused(what + ": proved", TURN, () -> x.proved());
    }

    /** The order as one number in base ten, its first coil first; -1 without an order. */
    static long orderOf(WidthCampaigns x, int coils) {
        long digits = 0;
        try {
            for (int place = 0; place < coils; place++) {
                digits = digits * 10 + x.order(place);
            }
        } catch (IllegalStateException e) {
            return -1;
        }
        return digits;
    }

    /** A digit 1 for each place with a change ahead of it, 0 for the others. */
    static long changesOf(WidthCampaigns x, int coils) {
        long digits = 0;
        for (int place = 0; place < coils; place++) {
            digits = digits * 10 + (x.change(place) ? 1 : 0);
        }
        return digits;
    }

    /** The number that tells an order, from its coils. */
    static long packed(int... coils) {
        long told = 0;
        for (int place = 0; place < coils.length; place++) {
            told |= (long) coils[place] << (4 * place);
        }
        return told;
    }

    /** Coils of these widths, alike in all else: thickness 1, hardness 0, ten kilometres. */
    static WidthCampaigns ofWidths(int... widths) {
        WidthCampaigns x = new WidthCampaigns();
        for (int width : widths) {
            x.coil(width, 1, 0, 10);
        }
        return x;
    }

    /** Coils of these kilometres, alike in all else; a change costs ten cents, the wear is as told. */
    static WidthCampaigns ofKilometres(int wear, int... kilometres) {
        WidthCampaigns x = new WidthCampaigns();
        for (int each : kilometres) {
            x.coil(5, 1, 0, each);
        }
        x.rules(0, wear, 10, 0);
        return x;
    }

    /** As many coils, alike in all. */
    static WidthCampaigns alike(int coils) {
        WidthCampaigns x = new WidthCampaigns();
        for (int i = 0; i < coils; i++) {
            x.coil(5, 1, 0, 1);
        }
        return x;
    }

    /**
     * Five coils on which every telling bears: jumps of both kinds, two groups, an urgent coil,
     * old places, rise 3, wear 100, 70 cents a change, 9 a moved coil; searched through.
     */
    static WidthCampaigns busy() {
        WidthCampaigns x = new WidthCampaigns();
        x.coil(10, 5, 2, 40);
        x.coil(20, 9, 4, 30);
        x.coil(30, 7, 3, 50);
        x.coil(25, 6, 1, 20);
        x.coil(15, 8, 5, 35);
        x.table(0, 0, 1, 3);
        x.table(0, 2, 3, 8);
        x.table(1, 0, 2, 1);
        x.table(1, 3, 4, 6);
        x.group(10, 20, 60);
        x.group(21, 30, 65);
        x.urgent(1, 2);
        x.old(0, 0);
        x.old(3, 4);
        x.rules(3, 100, 70, 9);
        x.run(100000);
        return x;
    }

    /** That a search on it finds what the first one found, so nothing that was told has altered. */
    static void runsAsBusy(String what, WidthCampaigns x) {
        x.run(100000);
        same(what + ", searched again", allAnswers(x), allAnswers(busy()));
    }

    /** Coils of these hardnesses, alike in all else. */
    static WidthCampaigns ofHardnesses(int... hardnesses) {
        WidthCampaigns x = new WidthCampaigns();
        for (int hard : hardnesses) {
            x.coil(5, 1, hard, 1);
        }
        return x;
    }

    static void finish(String name) {
        System.out.println(name + ": " + asked + " asked, " + wrong + " not as due");
        if (wrong != 0 || asked == 0) {
            System.exit(1);
        }
    }
}

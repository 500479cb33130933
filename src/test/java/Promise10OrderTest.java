/** Promise 10: order. */
final class Promise10OrderTest {
    private static final int[] NEVER_PLACES = {-1, 9, 10, Integer.MIN_VALUE, Integer.MAX_VALUE};

    public static void main(String[] args) {
        coilAtAPlace();
        orderOfNoCoils();
        firstPlaceBeyond();
        turnAheadOfIndex();
        orderOfASearchThatFailed();
        askingAltersNothing();
        Check.finish("Promise10OrderTest");
    }

    private static void coilAtAPlace() {
        WidthCampaigns x = Check.ofWidths(3, 9, 5, 7);
        x.run(1000);
        int[] due = {0, 1, 3, 2};
        for (int place = 0; place < 4; place++) {
            Check.due("found, place " + place, x.order(place), due[place]);
        }
        x.tell(Check.packed(2, 1, 3, 0));
        int[] told = {2, 1, 3, 0};
        for (int place = 0; place < 4; place++) {
            Check.due("told, place " + place, x.order(place), told[place]);
        }
    }

    private static void orderOfNoCoils() {
        WidthCampaigns x = new WidthCampaigns();
        x.run(0);
        Check.refused("no place 0", Check.INDEX, () -> x.order(0));
        for (int place : NEVER_PLACES) {
            Check.refused("no such place", Check.INDEX, () -> x.order(place));
        }
    }

    private static void firstPlaceBeyond() {
        for (int coils = 1; coils <= 9; coils++) {
            int its = coils;
            WidthCampaigns x = Check.alike(coils);
            x.run(100);
            Check.due("last place of " + coils, x.order(coils - 1), coils - 1);
            Check.refusedAndKept("first place beyond", Check.INDEX, x, () -> x.order(its));
            for (int place : NEVER_PLACES) {
                Check.refused("no such place", Check.INDEX, () -> x.order(place));
            }
        }
    }

    private static void turnAheadOfIndex() {
        WidthCampaigns none = new WidthCampaigns();
        WidthCampaigns gone = Check.busy();
        gone.old(0, 0);
        for (int place : NEVER_PLACES) {
            Check.refused("no order yet, no place", Check.TURN, () -> none.order(place));
            Check.refused("order gone, no place", Check.TURN, () -> gone.order(place));
        }
        Check.refused("order gone, a place of it", Check.TURN, () -> gone.order(4));
        Check.refused("order gone, first place beyond", Check.TURN, () -> gone.order(5));
    }

    private static void orderOfASearchThatFailed() {
        WidthCampaigns x = Check.alike(3);
        x.run(100);
        x.run(2);
        Check.refused("no order", Check.TURN, () -> x.order(0));
        Check.refused("no order and no place", Check.TURN, () -> x.order(3));
    }

    private static void askingAltersNothing() {
        WidthCampaigns x = Check.busy();
        String before = Check.allAnswers(x);
        Check.same("asked again", Check.allAnswers(x), before);
    }
}

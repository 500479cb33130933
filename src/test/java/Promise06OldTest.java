/** Promise 6: old, and the sentence of "Terms" on moved coils. */
final class Promise06OldTest {
    private static final int[] NO_PLACES = {-2, 9, 10, Integer.MIN_VALUE, Integer.MAX_VALUE};

    public static void main(String[] args) {
        noneAtFirst();
        placeThatItHas();
        everyOldPlaceOfNine();
        latestTellingCounts();
        noneAgain();
        twoCoilsOfOneOldPlace();
        oldPlaceBehindTheOrder();
        noSuchCoil();
        noSuchPlace();
        indexAheadOfRange();
        orderIsGone();
        Check.finish("Promise06OldTest");
    }

    private static WidthCampaigns alikeAtSevenCents(int coils) {
        WidthCampaigns x = Check.alike(coils);
        x.rules(0, 1000, 100, 7);
        return x;
    }

    private static void noneAtFirst() {
        WidthCampaigns x = alikeAtSevenCents(9);
        x.tell(Check.packed(8, 7, 6, 5, 4, 3, 2, 1, 0));
        Check.due("no coil has moved", x.told(2), 0);
        Check.due("nor costs", x.told(0), 0);
    }

    private static void placeThatItHas() {
        WidthCampaigns x = alikeAtSevenCents(3);
        x.old(2, 0);
        x.run(100);
        Check.due("a coil keeps its old place", Check.orderOf(x, 3), 201);
        Check.due("at no cost", x.told(0), 0);
        x.tell(Check.packed(0, 1, 2));
        Check.due("a coil elsewhere costs", x.told(0), 7);
        Check.due("a coil elsewhere is counted", x.told(2), 1);
    }

    private static void everyOldPlaceOfNine() {
        WidthCampaigns x = alikeAtSevenCents(9);
        for (int place = -1; place <= 8; place++) {
            for (int coil = 0; coil < 9; coil++) {
                x.old(coil, place);
                x.tell(Check.packed(0, 1, 2, 3, 4, 5, 6, 7, 8));
                boolean moved = place != -1 && place != coil;
                Check.due("old place " + place + " of coil " + coil, x.told(2), moved ? 1 : 0);
                Check.due("its cost", x.told(0), moved ? 7 : 0);
                x.old(coil, -1);
            }
        }
    }

    private static void latestTellingCounts() {
        WidthCampaigns x = alikeAtSevenCents(3);
        x.old(0, 1);
        x.old(0, 2);
        x.run(100);
        Check.due("the old place told last", Check.orderOf(x, 3), 120);
    }

    private static void noneAgain() {
        WidthCampaigns x = alikeAtSevenCents(3);
        x.old(0, 8);
        x.tell(Check.packed(0, 1, 2));
        Check.due("it has moved", x.told(2), 1);
        x.old(0, -1);
        x.tell(Check.packed(0, 1, 2));
        Check.due("it has no old place any more", x.told(2), 0);
        Check.due("nor costs", x.told(0), 0);
    }

    private static void twoCoilsOfOneOldPlace() {
        WidthCampaigns x = alikeAtSevenCents(3);
        x.old(2, 0);
        x.old(1, 0);
        x.run(100);
        Check.due("one of two has moved", x.told(0), 7);
        Check.due("the first of the best", Check.orderOf(x, 3), 102);
    }

    private static void oldPlaceBehindTheOrder() {
        for (int place = 3; place <= 8; place++) {
            WidthCampaigns x = alikeAtSevenCents(3);
            x.old(2, place);
            x.run(100);
            Check.due("a place that no order of three has", x.told(2), 1);
        }
    }

    private static void noSuchCoil() {
        WidthCampaigns x = Check.busy();
        for (int coil : new int[] {-1, 5, 8, 9, Integer.MIN_VALUE, Integer.MAX_VALUE}) {
            Check.refusedAndKept("no such coil", Check.INDEX, x, () -> x.old(coil, 0));
        }
        Check.runsAsBusy("no such coils", x);
        WidthCampaigns y = Check.alike(9);
        y.old(8, 8);
        Check.refused("the first number beyond nine coils", Check.INDEX, () -> y.old(9, 8));
    }

    private static void noSuchPlace() {
        WidthCampaigns x = Check.busy();
        for (int place : NO_PLACES) {
            for (int coil = 0; coil < 5; coil++) {
                int its = coil;
                Check.refusedAndKept("no such place", Check.RANGE, x, () -> x.old(its, place));
            }
        }
        Check.runsAsBusy("no such places", x);
    }

    private static void indexAheadOfRange() {
        WidthCampaigns x = Check.busy();
        for (int coil : new int[] {-1, 5, Integer.MIN_VALUE, Integer.MAX_VALUE}) {
            for (int place : NO_PLACES) {
                Check.refusedAndKept("no coil, no place", Check.INDEX, x, () -> x.old(coil, place));
            }
        }
    }

    private static void orderIsGone() {
        WidthCampaigns x = Check.busy();
        x.old(1, -1);
        Check.allGone("no old place behind a search, as before", x);
        x.tell(Check.packed(4, 1, 2, 3, 0));
        x.old(0, 0);
        Check.allGone("an old place behind a told order", x);
    }
}

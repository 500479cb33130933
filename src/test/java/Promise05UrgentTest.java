/** Promise 5: urgent, and the sentences of "Terms" on urgent coils. */
final class Promise05UrgentTest {
    private static final int[] NO_PLACES = {-1, 9, 10, Integer.MIN_VALUE, Integer.MAX_VALUE};

    public static void main(String[] args) {
        notBehindItsLastPlace();
        everyLastPlaceOfNine();
        latestTellingCounts();
        moreUrgentCoilsThanPlaces();
        lastPlaceBehindTheOrder();
        noSuchCoil();
        noSuchPlace();
        indexAheadOfRange();
        coilsThatDoNotStandYetAreNotAsked();
        orderIsGone();
        Check.finish("Promise05UrgentTest");
    }

    private static void notBehindItsLastPlace() {
        WidthCampaigns x = Check.alike(4);
        x.urgent(3, 0);
        x.run(1000);
        Check.due("urgent coil first", Check.orderOf(x, 4), 3012);
        x.urgent(2, 1);
        x.run(1000);
        Check.due("two urgent coils", Check.orderOf(x, 4), 3201);
    }

    /** Coil 0 told at each place, for each last place: good up to it, not behind it. */
    private static void everyLastPlaceOfNine() {
        for (int last = 0; last <= 8; last++) {
            WidthCampaigns x = Check.alike(9);
            x.urgent(0, last);
            for (int place = 0; place <= 8; place++) {
                int[] row = {1, 2, 3, 4, 5, 6, 7, 8, 8};
                System.arraycopy(row, place, row, place + 1, 8 - place);
                row[place] = 0;
                long told = Check.packed(row);
                if (place <= last) {
                    x.tell(told);
                    Check.due("last place " + last + ", at place " + place, x.order(place), 0);
                } else {
                    Check.refused("last place " + last + ", at place " + place, Check.MEANING, () -> x.tell(told));
                }
            }
        }
    }

    private static void latestTellingCounts() {
        WidthCampaigns x = Check.alike(4);
        x.urgent(3, 0);
        x.urgent(3, 2);
        x.run(1000);
        Check.due("a later last place", Check.orderOf(x, 4), 132);
        x.urgent(3, 1);
        x.run(1000);
        Check.due("an earlier last place", Check.orderOf(x, 4), 312);
        x.urgent(3, 8);
        x.run(1000);
        Check.due("last place 8 binds none of four", Check.orderOf(x, 4), 123);
    }

    private static void moreUrgentCoilsThanPlaces() {
        WidthCampaigns x = Check.alike(4);
        x.urgent(2, 0);
        x.urgent(3, 0);
        Check.due("two coils at place 0", x.run(1000), -1);
        x.urgent(3, 1);
        Check.due("one of them at place 1", x.run(1000), 4);
        Check.due("in their order", Check.orderOf(x, 4), 2301);
    }

    private static void lastPlaceBehindTheOrder() {
        for (int last = 2; last <= 8; last++) {
            WidthCampaigns x = Check.alike(3);
            x.urgent(0, last);
            x.tell(Check.packed(1, 2, 0));
            Check.due("last place " + last + " of three coils", Check.orderOf(x, 3), 120);
        }
    }

    private static void noSuchCoil() {
        WidthCampaigns x = Check.busy();
        for (int coil : new int[] {-1, 5, 8, 9, Integer.MIN_VALUE, Integer.MAX_VALUE}) {
            Check.refusedAndKept("no such coil", Check.INDEX, x, () -> x.urgent(coil, 0));
        }
        Check.runsAsBusy("no such coils", x);
        WidthCampaigns y = Check.alike(9);
        y.urgent(8, 8);
        Check.refused("the first number beyond nine coils", Check.INDEX, () -> y.urgent(9, 8));
    }

    private static void noSuchPlace() {
        WidthCampaigns x = Check.busy();
        for (int last : NO_PLACES) {
            for (int coil = 0; coil < 5; coil++) {
                int its = coil;
                Check.refusedAndKept("no such place", Check.RANGE, x, () -> x.urgent(its, last));
            }
        }
        Check.runsAsBusy("no such places", x);
    }

    private static void indexAheadOfRange() {
        WidthCampaigns x = Check.busy();
        for (int coil : new int[] {-1, 5, Integer.MIN_VALUE, Integer.MAX_VALUE}) {
            for (int last : NO_PLACES) {
                Check.refusedAndKept("no coil, no place", Check.INDEX, x, () -> x.urgent(coil, last));
            }
        }
    }

    /** Coil 1 must stand at place 0, yet coil 0 is put there: nodes are 0, 1, 10. */
    private static void coilsThatDoNotStandYetAreNotAsked() {
        WidthCampaigns x = Check.alike(2);
        x.urgent(1, 0);
        Check.due("two nodes do not reach 10", x.run(2), -1);
        Check.due("coil 0 behind coil 1 is left out", x.proved(), false);
        Check.due("three nodes reach it", x.run(3), 2);
        Check.due("coil 1 at place 1 is no node", x.proved(), true);
        Check.due("the order", Check.orderOf(x, 2), 10);
    }

    private static void orderIsGone() {
        WidthCampaigns x = Check.busy();
        x.urgent(1, 2);
        Check.allGone("a last place behind a search, though the same", x);
        x.tell(Check.packed(4, 1, 2, 3, 0));
        x.urgent(0, 8);
        Check.allGone("a last place behind a told order", x);
    }
}

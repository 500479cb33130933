/** Promise 2: coil, and the sentence of "Terms" that tells what coils have. */
final class Promise02CoilTest {
    /** Each number alone too small or too large, the others as they may be. */
    private static final int[][] WRONG = {
        {0, 5, 5, 5}, {2001, 5, 5, 5}, {-1, 5, 5, 5}, {Integer.MIN_VALUE, 5, 5, 5}, {Integer.MAX_VALUE, 5, 5, 5},
        {5, 0, 5, 5}, {5, 1001, 5, 5}, {5, -1, 5, 5}, {5, Integer.MIN_VALUE, 5, 5}, {5, Integer.MAX_VALUE, 5, 5},
        {5, 5, -1, 5}, {5, 5, 10, 5}, {5, 5, Integer.MIN_VALUE, 5}, {5, 5, Integer.MAX_VALUE, 5},
        {5, 5, 5, 0}, {5, 5, 5, 101}, {5, 5, 5, -1}, {5, 5, 5, Integer.MIN_VALUE}, {5, 5, 5, Integer.MAX_VALUE},
    };

    public static void main(String[] args) {
        numbers();
        leastAndGreatest();
        tooSmallOrTooLarge();
        noRoom();
        rangeAheadOfMeaning();
        whatACoilHasIsKept();
        greatestKilometres();
        neitherUrgentNorOldAtFirst();
        orderIsGone();
        Check.finish("Promise02CoilTest");
    }

    private static void numbers() {
        WidthCampaigns x = new WidthCampaigns();
        for (int i = 0; i < 9; i++) {
            Check.due("coil's number", x.coil(i + 1, 1, 0, 1), i);
        }
    }

    private static void leastAndGreatest() {
        int[][] right = {
            {1, 5, 5, 5}, {2000, 5, 5, 5}, {5, 1, 5, 5}, {5, 1000, 5, 5}, {5, 5, 0, 5}, {5, 5, 9, 5},
            {5, 5, 5, 1}, {5, 5, 5, 100}, {1, 1, 0, 1}, {2000, 1000, 9, 100},
        };
        for (int[] r : right) {
            Check.due("a coil at the edge", new WidthCampaigns().coil(r[0], r[1], r[2], r[3]), 0);
        }
    }

    private static void tooSmallOrTooLarge() {
        WidthCampaigns x = Check.busy();
        for (int[] w : WRONG) {
            Check.refusedAndKept("a coil out of range", Check.RANGE, x, () -> x.coil(w[0], w[1], w[2], w[3]));
        }
        Check.runsAsBusy("refused coils", x);
        Check.due("a refused coil takes no number", x.coil(1, 1, 0, 1), 5);
    }

    private static void noRoom() {
        WidthCampaigns x = Check.alike(9);
        x.run(1000);
        Check.refusedAndKept("a tenth coil", Check.MEANING, x, () -> x.coil(1, 1, 0, 1));
        Check.refusedAndKept("a tenth coil again", Check.MEANING, x, () -> x.coil(2000, 1000, 9, 100));
        Check.due("all nine are ordered", x.run(1000), 9);
        Check.refused("no coil 9", Check.INDEX, () -> x.urgent(9, 0));
    }

    private static void rangeAheadOfMeaning() {
        WidthCampaigns x = Check.alike(9);
        x.run(1000);
        for (int[] w : WRONG) {
            Check.refusedAndKept("a tenth coil out of range", Check.RANGE, x, () -> x.coil(w[0], w[1], w[2], w[3]));
        }
    }

    private static void whatACoilHasIsKept() {
        WidthCampaigns x = new WidthCampaigns();
        x.coil(1, 1, 0, 1);
        x.coil(2000, 1000, 9, 100);
        x.table(0, 9, 9, 3);
        Check.due("hardness", x.jump(0, 1), 3);
        x.table(1, 999, 999, 4);
        Check.due("thickness", x.jump(0, 1), 7);
        x.rules(2, 101, 5, 0);
        x.run(10);
        Check.due("widths", Check.orderOf(x, 2), 1);
        Check.due("kilometres: 101 are not above 101", x.told(1), 0);
        x.rules(2, 100, 5, 0);
        x.run(10);
        Check.due("kilometres: 101 are above 100", x.told(1), 1);
    }

    private static void greatestKilometres() {
        WidthCampaigns x = Check.ofKilometres(900, 100, 100, 100, 100, 100, 100, 100, 100, 100);
        x.run(1000);
        Check.due("nine coils of 100 are not above 900", x.told(1), 0);
        x.rules(0, 899, 10, 0);
        x.run(1000);
        Check.due("nine coils of 100 are above 899", Check.changesOf(x, 9), 1);
    }

    private static void neitherUrgentNorOldAtFirst() {
        WidthCampaigns x = Check.alike(8);
        for (int coil = 0; coil < 8; coil++) {
            x.urgent(coil, 7);
            x.old(coil, coil);
        }
        x.coil(5, 1, 0, 1);
        x.rules(0, 1000, 0, 5);
        x.run(1000);
        Check.due("the new coil stands at place 8", Check.orderOf(x, 9), 12345678);
        Check.due("and has not moved", x.told(2), 0);
        x.old(8, 8);
        Check.refused("the others are urgent still", Check.MEANING,
                () -> x.tell(Check.packed(8, 0, 1, 2, 3, 4, 5, 6, 7)));
    }

    private static void orderIsGone() {
        WidthCampaigns x = Check.busy();
        x.coil(3, 1, 0, 1);
        Check.allGone("a coil behind a search", x);
        WidthCampaigns y = new WidthCampaigns();
        y.tell(0);
        y.coil(3, 1, 0, 1);
        Check.allGone("a coil behind a told order", y);
    }
}

/** Promise 3: table, and the sentences of "Terms" on tables. */
final class Promise03TableTest {
    /** From, to and cost, each alone too small or too large, or to below from. */
    private static final int[][] WRONG = {
        {-1, 5, 5}, {Integer.MIN_VALUE, 5, 5}, {1001, 1001, 5}, {1001, 1002, 5}, {1001, 1000, 5},
        {Integer.MAX_VALUE, Integer.MAX_VALUE, 5}, {0, 1001, 5}, {0, Integer.MAX_VALUE, 5}, {0, -1, 5}, {-1, -1, 5},
        {5, 4, 5}, {1000, 999, 5}, {1, 0, 5}, {5, Integer.MIN_VALUE, 5},
        {0, 5, -1}, {0, 5, 10001}, {0, 5, Integer.MIN_VALUE}, {0, 5, Integer.MAX_VALUE},
    };
    private static final int[] NO_KINDS = {-1, 2, 3, Integer.MIN_VALUE, Integer.MAX_VALUE};

    public static void main(String[] args) {
        howMany();
        leastAndGreatest();
        tooSmallOrTooLarge();
        noSuchKind();
        noRoom();
        indexAheadOfRangeAndMeaning();
        rangeAheadOfMeaning();
        rowHasItsEdges();
        firstRowThatHasTheSize();
        lastRowCounts();
        kindsAreApart();
        costs();
        orderIsGone();
        Check.finish("Promise03TableTest");
    }

    private static WidthCampaigns withFullTables() {
        WidthCampaigns x = Check.ofHardnesses(0, 0);
        for (int row = 0; row < 8; row++) {
            x.table(0, 0, 0, 1);
            x.table(1, 0, 0, 2);
        }
        x.run(100);
        return x;
    }

    private static void howMany() {
        WidthCampaigns x = new WidthCampaigns();
        for (int row = 1; row <= 8; row++) {
            Check.due("rows of hardness", x.table(0, row, row, row), row);
        }
        for (int row = 1; row <= 8; row++) {
            Check.due("rows of thickness", x.table(1, row, row, row), row);
        }
    }

    private static void leastAndGreatest() {
        int[][] right = {{0, 0, 0}, {0, 0, 10000}, {0, 1000, 0}, {1000, 1000, 10000}, {0, 1, 5}, {7, 7, 5}};
        for (int kind = 0; kind <= 1; kind++) {
            for (int[] r : right) {
                Check.due("a row at the edge", new WidthCampaigns().table(kind, r[0], r[1], r[2]), 1);
            }
        }
    }

    private static void tooSmallOrTooLarge() {
        WidthCampaigns x = Check.busy();
        for (int[] w : WRONG) {
            Check.refusedAndKept("a row of hardness", Check.RANGE, x, () -> x.table(0, w[0], w[1], w[2]));
            Check.refusedAndKept("a row of thickness", Check.RANGE, x, () -> x.table(1, w[0], w[1], w[2]));
        }
        Check.runsAsBusy("refused rows", x);
        Check.due("a refused row of hardness is not counted", x.table(0, 0, 0, 0), 3);
        Check.due("a refused row of thickness is not counted", x.table(1, 0, 0, 0), 3);
    }

    private static void noSuchKind() {
        WidthCampaigns x = Check.busy();
        for (int kind : NO_KINDS) {
            Check.refusedAndKept("no such kind", Check.INDEX, x, () -> x.table(kind, 0, 1000, 0));
        }
        Check.runsAsBusy("rows of no kind", x);
    }

    private static void noRoom() {
        WidthCampaigns x = withFullTables();
        Check.refusedAndKept("a ninth row of hardness", Check.MEANING, x, () -> x.table(0, 0, 1000, 0));
        Check.refusedAndKept("a ninth row of thickness", Check.MEANING, x, () -> x.table(1, 0, 1000, 0));
        x.coil(5, 2, 1, 1);
        Check.due("the ninth rows are not there", x.jump(0, 2), -1);
        WidthCampaigns y = new WidthCampaigns();
        for (int row = 0; row < 8; row++) {
            y.table(1, 0, 0, 0);
        }
        Check.due("the other kind has room", y.table(0, 0, 0, 0), 1);
    }

    private static void indexAheadOfRangeAndMeaning() {
        WidthCampaigns x = withFullTables();
        for (int kind : NO_KINDS) {
            Check.refusedAndKept("no kind, full tables", Check.INDEX, x, () -> x.table(kind, 0, 0, 0));
            for (int[] w : WRONG) {
                Check.refused("no kind, out of range", Check.INDEX, () -> x.table(kind, w[0], w[1], w[2]));
            }
        }
    }

    private static void rangeAheadOfMeaning() {
        WidthCampaigns x = withFullTables();
        for (int[] w : WRONG) {
            Check.refusedAndKept("hardness, full", Check.RANGE, x, () -> x.table(0, w[0], w[1], w[2]));
            Check.refusedAndKept("thickness, full", Check.RANGE, x, () -> x.table(1, w[0], w[1], w[2]));
        }
    }

    /** Hardness jumps of 2 .. 5 and thickness jumps of 3 .. 998: the sizes on the edges and beyond. */
    private static void rowHasItsEdges() {
        WidthCampaigns x = Check.ofHardnesses(0, 1, 2, 5, 6);
        x.table(0, 2, 5, 7);
        int[] due = {-1, 7, 7, -1};
        for (int coil = 1; coil <= 4; coil++) {
            Check.due("hardness jump to coil " + coil, x.jump(0, coil), due[coil - 1]);
            Check.due("the other way, without sign", x.jump(coil, 0), due[coil - 1]);
        }
        WidthCampaigns y = new WidthCampaigns();
        for (int thick : new int[] {1, 3, 4, 999, 1000}) {
            y.coil(5, thick, 0, 1);
        }
        y.table(1, 3, 998, 7);
        for (int coil = 1; coil <= 4; coil++) {
            Check.due("thickness jump to coil " + coil, y.jump(0, coil), due[coil - 1]);
            Check.due("the other way, without sign", y.jump(coil, 0), due[coil - 1]);
        }
    }

    private static void firstRowThatHasTheSize() {
        WidthCampaigns x = Check.ofHardnesses(0, 3, 4);
        x.table(0, 3, 3, 8);
        x.table(0, 0, 9, 2);
        x.table(0, 4, 4, 1);
        Check.due("the first row counts, though dearer", x.jump(0, 1), 8);
        Check.due("the first row counts, not the narrower one", x.jump(0, 2), 2);
        Check.due("a row that has the size, behind one that has not", x.jump(1, 2), 2);
    }

    private static void lastRowCounts() {
        WidthCampaigns x = Check.ofHardnesses(0, 8);
        for (int row = 1; row <= 7; row++) {
            x.table(0, row, row, row);
        }
        Check.due("a size in none of seven rows", x.jump(0, 1), -1);
        x.table(0, 8, 8, 8);
        Check.due("a size in the eighth row", x.jump(0, 1), 8);
    }

    private static void kindsAreApart() {
        WidthCampaigns x = new WidthCampaigns();
        x.coil(5, 1, 0, 1);
        x.coil(5, 8, 5, 1);
        x.table(0, 5, 5, 3);
        Check.due("rows of hardness alone: thickness costs 0", x.jump(0, 1), 3);
        WidthCampaigns y = new WidthCampaigns();
        y.coil(5, 1, 0, 1);
        y.coil(5, 8, 5, 1);
        y.table(1, 7, 7, 4);
        Check.due("rows of thickness alone: hardness costs 0", y.jump(0, 1), 4);
        y.table(0, 7, 7, 3);
        Check.due("a row of hardness is none of thickness", y.jump(0, 1), -1);
        y.table(0, 5, 5, 3);
        Check.due("both", y.jump(0, 1), 7);
    }

    private static void costs() {
        WidthCampaigns x = Check.ofHardnesses(0, 0);
        x.table(0, 0, 0, 0);
        Check.due("a row of cost 0 allows the jump", x.jump(0, 1), 0);
        WidthCampaigns y = Check.ofHardnesses(0, 0);
        y.table(0, 0, 1000, 10000);
        Check.due("the dearest row", y.jump(0, 1), 10000);
        y.table(1, 0, 1000, 10000);
        Check.due("the dearest rows of both kinds", y.jump(0, 1), 20000);
    }

    private static void orderIsGone() {
        for (int kind = 0; kind <= 1; kind++) {
            WidthCampaigns x = Check.busy();
            x.table(kind, 1000, 1000, 0);
            Check.allGone("a row of kind " + kind, x);
            x.tell(Check.packed(4, 1, 2, 3, 0));
            x.table(kind, 1000, 1000, 0);
            Check.allGone("a row of kind " + kind + " behind a told order", x);
        }
    }
}

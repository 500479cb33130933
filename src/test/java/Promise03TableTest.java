/** Promise 3: table. */
final class Promise03TableTest {
    public static void main(String[] args) {
        countsOfEachKind();
        edges();
        orderOfRefusals();
        firstRowThatHasTheSize();
        orderIsGone();
        Check.finish("Promise03TableTest");
    }

    private static void countsOfEachKind() {
        WidthCampaigns x = new WidthCampaigns();
        for (int row = 1; row <= 8; row++) {
            Check.due("rows of hardness", x.table(0, row, row, row), row);
        }
        Check.refused("a ninth row of hardness", Check.MEANING, () -> x.table(0, 0, 0, 0));
        for (int row = 1; row <= 8; row++) {
            Check.due("rows of thickness", x.table(1, row, row, row), row);
        }
        Check.refused("a ninth row of thickness", Check.MEANING, () -> x.table(1, 0, 0, 0));
    }

    private static void edges() {
        WidthCampaigns x = new WidthCampaigns();
        int[][] wrong = {
            {-1, 0, 0}, {0, -1, 0}, {5, 4, 0}, {0, 1001, 0}, {1001, 1001, 0}, {0, 0, -1}, {0, 0, 10001},
            {Integer.MIN_VALUE, Integer.MAX_VALUE, 0}, {0, 0, Integer.MAX_VALUE}, {0, Integer.MIN_VALUE, 0},
        };
        for (int kind = 0; kind <= 1; kind++) {
            int its = kind;
            for (int[] w : wrong) {
                Check.refused("a row out of range", Check.RANGE, () -> x.table(its, w[0], w[1], w[2]));
            }
            Check.due("the widest row", x.table(kind, 0, 1000, 10000), 1);
            Check.due("a row of one size", x.table(kind, 1000, 1000, 0), 2);
        }
        for (int kind : new int[] {-1, 2, Integer.MIN_VALUE, Integer.MAX_VALUE}) {
            Check.refused("no such kind", Check.INDEX, () -> x.table(kind, 0, 0, 0));
        }
    }

    private static void orderOfRefusals() {
        WidthCampaigns x = new WidthCampaigns();
        for (int row = 0; row < 8; row++) {
            x.table(1, 0, 0, 0);
        }
        Check.refused("index ahead of range", Check.INDEX, () -> x.table(2, 5, 4, -1));
        Check.refused("range ahead of meaning", Check.RANGE, () -> x.table(1, 5, 4, 0));
        Check.due("the other kind has room", x.table(0, 0, 0, 0), 1);
    }

    private static void firstRowThatHasTheSize() {
        WidthCampaigns x = Check.ofHardnesses(0, 3, 4);
        x.table(0, 3, 3, 8);
        x.table(0, 0, 9, 2);
        x.table(0, 4, 4, 1);
        Check.due("the first row counts, though dearer", x.jump(0, 1), 8);
        Check.due("the first row counts, not the narrower one", x.jump(0, 2), 2);
        Check.due("size without sign", x.jump(1, 0), 8);
    }

    private static void orderIsGone() {
        WidthCampaigns x = Check.ofWidths(1, 2);
        x.run(100);
        Check.refused("no such kind", Check.INDEX, () -> x.table(2, 0, 0, 0));
        Check.refused("a wrong row", Check.RANGE, () -> x.table(0, 1, 0, 0));
        Check.stillThere("refused rows", x, true);
        x.table(0, 0, 0, 0);
        Check.stillThere("a row of hardness", x, false);
        x.run(100);
        x.table(1, 0, 0, 0);
        Check.stillThere("a row of thickness", x, false);
        for (int row = 1; row < 8; row++) {
            x.table(0, 0, 0, 0);
        }
        x.run(100);
        Check.refused("a ninth row", Check.MEANING, () -> x.table(0, 0, 0, 0));
        Check.stillThere("a ninth row", x, true);
    }
}

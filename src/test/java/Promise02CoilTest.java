/** Promise 2: coil. */
final class Promise02CoilTest {
    public static void main(String[] args) {
        numbersAndRoom();
        edges();
        orderIsGone();
        Check.finish("Promise02CoilTest");
    }

    private static void numbersAndRoom() {
        WidthCampaigns x = new WidthCampaigns();
        for (int i = 0; i < 9; i++) {
            Check.due("coil's number", x.coil(i + 1, 1, 0, 1), i);
        }
        x.run(100000);
        Check.refused("a tenth coil", Check.MEANING, () -> x.coil(1, 1, 0, 1));
        Check.refused("range comes ahead of meaning", Check.RANGE, () -> x.coil(0, 1, 0, 1));
        Check.stillThere("refused coils", x, true);
        Check.due("all nine are ordered", x.run(100000), 9);
    }

    private static void edges() {
        WidthCampaigns x = new WidthCampaigns();
        int[][] wrong = {
            {0, 1, 0, 1}, {2001, 1, 0, 1}, {1, 0, 0, 1}, {1, 1001, 0, 1}, {1, 1, -1, 1}, {1, 1, 10, 1},
            {1, 1, 0, 0}, {1, 1, 0, 101}, {Integer.MIN_VALUE, 1, 0, 1}, {1, Integer.MAX_VALUE, 0, 1},
            {1, 1, Integer.MIN_VALUE, 1}, {1, 1, 0, Integer.MAX_VALUE},
        };
        for (int[] w : wrong) {
            Check.refused("a coil out of range", Check.RANGE, () -> x.coil(w[0], w[1], w[2], w[3]));
        }
        Check.due("the least coil", x.coil(1, 1, 0, 1), 0);
        Check.due("the greatest coil", x.coil(2000, 1000, 9, 100), 1);
        Check.due("jump between them without tables", x.jump(0, 1), 0);
        x.table(0, 9, 9, 3);
        x.table(1, 999, 999, 4);
        Check.due("hardness and thickness are kept", x.jump(0, 1), 7);
        x.rules(2, 100, 5, 0);
        x.run(10);
        Check.due("widths are kept", Check.orderOf(x, 2), 1);
        Check.due("kilometres are kept: 101 are above 100", x.told(1), 1);
    }

    private static void orderIsGone() {
        WidthCampaigns x = Check.ofWidths(1, 2);
        x.run(100);
        Check.refused("a refused coil", Check.RANGE, () -> x.coil(0, 0, 0, 0));
        Check.stillThere("refused coil", x, true);
        x.coil(3, 1, 0, 1);
        Check.stillThere("coil", x, false);
    }
}

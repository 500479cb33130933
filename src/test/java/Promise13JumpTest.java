/** Promise 13: jump. */
final class Promise13JumpTest {
    public static void main(String[] args) {
        WidthCampaigns x = new WidthCampaigns();
        x.coil(5, 10, 2, 1);
        x.coil(5, 13, 6, 1);
        x.coil(5, 30, 2, 1);
        Check.due("without rows", x.jump(0, 1), 0);
        x.table(0, 4, 4, 10);
        Check.due("hardness alone", x.jump(0, 1), 10);
        Check.due("the other way", x.jump(1, 0), 10);
        Check.due("a size in no row", x.jump(0, 2), -1);
        x.table(0, 0, 0, 0);
        Check.due("a later row", x.jump(0, 2), 0);
        x.table(1, 3, 19, 7);
        Check.due("both kinds", x.jump(0, 1), 17);
        Check.due("the row's upper edge is passed", x.jump(2, 0), -1);
        x.table(1, 20, 20, 10000);
        Check.due("the row's own size", x.jump(2, 0), 10000);
        Check.due("17 within 3 .. 19", x.jump(1, 2), 17);
        x.run(100);
        Check.due("jumps leave the order alone", x.jump(0, 1) == 17 && x.told(0) >= 0, true);
        int[][] wrong = {
            {0, 0}, {2, 2}, {-1, 0}, {0, -1}, {3, 0}, {0, 3}, {3, 3}, {-1, -1},
            {Integer.MIN_VALUE, 0}, {0, Integer.MAX_VALUE},
        };
        for (int[] w : wrong) {
            Check.refused("no such coils", Check.INDEX, () -> x.jump(w[0], w[1]));
        }
        x.coil(5, 10, 2, 1);
        Check.due("a coil behind the tables", x.jump(3, 2), 10000);
        Check.due("the size 0 in no row of thickness", x.jump(3, 0), -1);
        oneKindForbids();
        Check.finish("Promise13JumpTest");
    }

    private static void oneKindForbids() {
        WidthCampaigns x = new WidthCampaigns();
        x.coil(5, 10, 0, 1);
        x.coil(5, 50, 5, 1);
        x.coil(5, 55, 9, 1);
        x.table(0, 0, 5, 10);
        x.table(1, 0, 10, 3);
        Check.due("hardness allows it, thickness does not", x.jump(0, 1), -1);
        Check.due("both allow it", x.jump(1, 2), 13);
        Check.due("neither allows it", x.jump(0, 2), -1);
        x.coil(5, 12, 9, 1);
        Check.due("thickness allows it, hardness does not", x.jump(0, 3), -1);
    }
}

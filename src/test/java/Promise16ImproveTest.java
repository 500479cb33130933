/** Promise 16: improve. */
final class Promise16ImproveTest {
    public static void main(String[] args) {
        refusals();
        steps();
        firstPairNotBest();
        onlyGoodOrders();
        countsFollow();
        Check.finish("Promise16ImproveTest");
    }

    private static void refusals() {
        WidthCampaigns x = new WidthCampaigns();
        Check.refused("turn ahead of range", Check.TURN, () -> x.improve(-1));
        x.tell(0);
        Check.due("no coils", x.improve(100), 0);
        for (int steps : new int[] {-1, 101, Integer.MIN_VALUE, Integer.MAX_VALUE}) {
            Check.refused("steps out of range", Check.RANGE, () -> x.improve(steps));
        }
        x.coil(5, 1, 0, 1);
        Check.refused("the order is gone", Check.TURN, () -> x.improve(1));
        x.run(1);
        Check.due("one coil", x.improve(1), 0);
    }

    /** Each coil's old place is its number, a moved coil costs 5. */
    private static WidthCampaigns sorted(int... told) {
        WidthCampaigns x = new WidthCampaigns();
        for (int i = 0; i < told.length; i++) {
            x.coil(5, 1, 0, 1);
            x.old(i, i);
        }
        x.rules(0, 1000, 0, 5);
        x.tell(Check.packed(told));
        return x;
    }

    private static void steps() {
        WidthCampaigns x = sorted(3, 2, 1, 0);
        Check.due("no steps", x.improve(0), 0);
        Check.due("the order stays", Check.orderOf(x, 4), 3210);
        Check.due("one step", x.improve(1), 1);
        Check.due("places 0 and 3 change", Check.orderOf(x, 4), 213);
        Check.due("the rest: it ends without a pair", x.improve(100), 1);
        Check.due("all at their places", Check.orderOf(x, 4), 123);
        Check.due("no penalty", x.told(0), 0);
        Check.due("nothing is left", x.improve(1), 0);
    }

    /** Pair (0, 1) helps coil 1 alone; it is taken because it is the first that helps. */
    private static void firstPairNotBest() {
        WidthCampaigns x = sorted(1, 3, 0, 2);
        Check.due("first step", x.improve(1), 1);
        Check.due("pair (0, 1)", Check.orderOf(x, 4), 3102);
        Check.due("second step", x.improve(1), 1);
        Check.due("pair (0, 2)", Check.orderOf(x, 4), 132);
        Check.due("last step", x.improve(100), 1);
        Check.due("pair (2, 3)", Check.orderOf(x, 4), 123);
    }

    private static void onlyGoodOrders() {
        WidthCampaigns x = Check.ofWidths(9, 8);
        x.rules(0, 1000, 0, 5);
        x.old(0, 1);
        x.tell(Check.packed(0, 1));
        Check.due("widths forbid it", x.improve(1), 0);
        x.rules(2, 1000, 0, 5);
        x.tell(Check.packed(1, 0));
        Check.due("it is at its place", x.told(0), 0);
        WidthCampaigns y = sorted(1, 0);
        y.urgent(1, 0);
        y.tell(Check.packed(1, 0));
        Check.due("an urgent coil forbids it", y.improve(1), 0);
        WidthCampaigns z = Check.ofHardnesses(0, 1, 2);
        z.table(0, 0, 1, 9);
        z.rules(0, 1000, 0, 50);
        z.old(0, 1);
        z.tell(Check.packed(0, 1, 2));
        Check.due("jumps forbid it", z.improve(1), 0);
        Check.due("the order stays", Check.orderOf(z, 3), 12);
    }

    private static void countsFollow() {
        WidthCampaigns x = Check.ofKilometres(60, 30, 40, 30, 20);
        x.tell(Check.packed(0, 1, 2, 3));
        Check.due("changes ahead of 1 and 2", Check.changesOf(x, 4), 110);
        Check.due("a step", x.improve(5), 1);
        Check.due("(0, 3) is the first pair that saves a change", Check.orderOf(x, 4), 3120);
        Check.due("its changes", Check.changesOf(x, 4), 10);
        Check.due("its penalty", x.told(0), 10);
        Check.due("how many changes", x.told(1), 1);
    }
}

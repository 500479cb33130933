/** Promise 16: improve, and the sentence of "Terms" on improving. */
final class Promise16ImproveTest {
    private static final int[] NO_STEPS = {-1, 101, Integer.MIN_VALUE, Integer.MAX_VALUE};

    public static void main(String[] args) {
        noOrder();
        stepsOutOfRange();
        turnAheadOfRange();
        noCoilsAndOneCoil();
        noSteps();
        soManySteps();
        endsWithoutAPair();
        pairsInTheirOrder();
        firstPairNotBest();
        everyPairIsTried();
        equalPenaltyIsNotTaken();
        onlyGoodOrders();
        countsFollow();
        leavesTheSearchAndWhatWasTold();
        Check.finish("Promise16ImproveTest");
    }

    /** Each coil's old place is its number, a moved coil costs 5. */
    private static WidthCampaigns sorted(int... told) {
        WidthCampaigns x = Check.alike(told.length);
        for (int i = 0; i < told.length; i++) {
            x.old(i, i);
        }
        x.rules(0, 1000, 0, 5);
        x.tell(Check.packed(told));
        return x;
    }

    private static void noOrder() {
        WidthCampaigns none = new WidthCampaigns();
        WidthCampaigns gone = Check.busy();
        gone.old(0, 0);
        WidthCampaigns failed = Check.alike(2);
        failed.run(1);
        for (int steps : new int[] {0, 1, 100}) {
            Check.refused("no order yet", Check.TURN, () -> none.improve(steps));
            Check.refused("the order is gone", Check.TURN, () -> gone.improve(steps));
            Check.refused("no order was found", Check.TURN, () -> failed.improve(steps));
        }
    }

    private static void stepsOutOfRange() {
        WidthCampaigns x = sorted(3, 2, 1, 0);
        for (int steps : NO_STEPS) {
            Check.refusedAndKept("steps out of range", Check.RANGE, x, () -> x.improve(steps));
        }
        WidthCampaigns y = new WidthCampaigns();
        y.tell(0);
        for (int steps : NO_STEPS) {
            Check.refused("steps out of range, no coils", Check.RANGE, () -> y.improve(steps));
        }
    }

    private static void turnAheadOfRange() {
        WidthCampaigns none = new WidthCampaigns();
        WidthCampaigns gone = Check.busy();
        gone.old(0, 0);
        for (int steps : NO_STEPS) {
            Check.refused("no order, no steps", Check.TURN, () -> none.improve(steps));
            Check.refused("order gone, no steps", Check.TURN, () -> gone.improve(steps));
        }
    }

    private static void noCoilsAndOneCoil() {
        WidthCampaigns x = new WidthCampaigns();
        x.tell(0);
        Check.due("no coils", x.improve(100), 0);
        WidthCampaigns y = Check.alike(1);
        y.old(0, 8);
        y.rules(0, 1000, 0, 5);
        y.run(1);
        Check.due("one coil has no pair", y.improve(100), 0);
        Check.due("its order", y.order(0), 0);
    }

    private static void noSteps() {
        WidthCampaigns x = sorted(3, 2, 1, 0);
        String before = Check.allAnswers(x);
        Check.due("no steps", x.improve(0), 0);
        Check.same("all stays", Check.allAnswers(x), before);
    }

    private static void soManySteps() {
        WidthCampaigns x = sorted(3, 2, 1, 0);
        Check.due("one step", x.improve(1), 1);
        Check.due("places 0 and 3 change", Check.orderOf(x, 4), 213);
        Check.due("one step more", x.improve(1), 1);
        Check.due("places 1 and 2 change", Check.orderOf(x, 4), 123);
        WidthCampaigns y = sorted(1, 2, 3, 4, 5, 6, 7, 8, 0);
        Check.due("seven of eight steps", y.improve(7), 7);
        Check.due("two coils are left", y.told(0), 10);
        Check.due("the last one", y.improve(100), 1);
        Check.due("all at their places", Check.orderOf(y, 9), 12345678);
    }

    private static void endsWithoutAPair() {
        WidthCampaigns x = sorted(3, 2, 1, 0);
        Check.due("100 steps, two are taken", x.improve(100), 2);
        Check.due("no penalty", x.told(0), 0);
        Check.due("nothing is left", x.improve(100), 0);
        Check.due("the order stays", Check.orderOf(x, 4), 123);
    }

    /** Coil 2 belongs to place 0 and coil 0 to place 1: (0, 1) is tried ahead of (0, 2). */
    private static void pairsInTheirOrder() {
        WidthCampaigns x = Check.alike(3);
        x.old(0, 1);
        x.old(2, 0);
        x.rules(0, 1000, 0, 5);
        x.tell(Check.packed(0, 1, 2));
        Check.due("a step", x.improve(1), 1);
        Check.due("(0, 1) ahead of (0, 2)", Check.orderOf(x, 3), 102);
        WidthCampaigns y = Check.alike(4);
        y.old(3, 0);
        y.old(2, 1);
        y.rules(0, 1000, 0, 5);
        y.tell(Check.packed(0, 1, 2, 3));
        Check.due("a step", y.improve(1), 1);
        Check.due("(0, 3) ahead of (1, 2)", Check.orderOf(y, 4), 3120);
    }

    /** Pair (0, 1) helps coil 1 alone; it is taken because it is the first that helps. */
    private static void firstPairNotBest() {
        WidthCampaigns x = sorted(1, 3, 0, 2);
        Check.due("first step", x.improve(1), 1);
        Check.due("pair (0, 1)", Check.orderOf(x, 4), 3102);
        Check.due("second step", x.improve(1), 1);
        Check.due("pair (0, 2)", Check.orderOf(x, 4), 132);
        Check.due("last step", x.improve(100), 1);
        Check.due("pair (2, 3)", Check.orderOf(x, 4), 123);
    }

    private static void everyPairIsTried() {
        for (int first = 0; first < 9; first++) {
            for (int second = first + 1; second < 9; second++) {
                int[] row = {0, 1, 2, 3, 4, 5, 6, 7, 8};
                row[first] = second;
                row[second] = first;
                WidthCampaigns x = sorted(row);
                Check.due("pair (" + first + ", " + second + ")", x.improve(2), 1);
                Check.due("changes back", Check.orderOf(x, 9), 12345678);
            }
        }
    }

    private static void equalPenaltyIsNotTaken() {
        WidthCampaigns x = Check.alike(3);
        x.tell(Check.packed(2, 1, 0));
        Check.due("all orders cost as much", x.improve(100), 0);
        Check.due("the order stays", Check.orderOf(x, 3), 210);
        WidthCampaigns y = Check.alike(2);
        y.old(0, 0);
        y.old(1, 0);
        y.rules(0, 1000, 0, 5);
        y.tell(Check.packed(1, 0));
        Check.due("one of two is moved in each", y.improve(1), 0);
        Check.due("the order stays", Check.orderOf(y, 2), 10);
    }

    private static void onlyGoodOrders() {
        WidthCampaigns x = Check.ofWidths(9, 8);
        x.rules(0, 1000, 0, 5);
        x.old(0, 1);
        x.tell(Check.packed(0, 1));
        Check.due("widths forbid it", x.improve(1), 0);
        WidthCampaigns y = sorted(1, 0);
        y.urgent(1, 0);
        y.tell(Check.packed(1, 0));
        Check.due("an urgent coil forbids it", y.improve(1), 0);
        y.urgent(1, 1);
        y.tell(Check.packed(1, 0));
        Check.due("its last place allows it", y.improve(1), 1);
        WidthCampaigns z = Check.ofHardnesses(0, 1, 2);
        z.table(0, 0, 1, 9);
        z.rules(0, 1000, 0, 50);
        z.old(0, 1);
        z.tell(Check.packed(0, 1, 2));
        Check.due("jumps forbid it", z.improve(1), 0);
        Check.due("the order stays", Check.orderOf(z, 3), 12);
        z.table(0, 2, 2, 9);
        z.tell(Check.packed(0, 1, 2));
        Check.due("jumps allow it", z.improve(1), 1);
        Check.due("the coils change", Check.orderOf(z, 3), 102);
    }

    private static void countsFollow() {
        WidthCampaigns x = Check.ofKilometres(60, 30, 40, 30, 20);
        x.tell(Check.packed(0, 1, 2, 3));
        Check.due("changes ahead of 1 and 2", Check.changesOf(x, 4), 110);
        Check.due("a step", x.improve(5), 1);
        Check.due("(0, 3) is the first pair that saves a change", Check.orderOf(x, 4), 3120);
        Check.due("its changes", Check.changesOf(x, 4), 10);
        Check.due("its penalty", x.told(0), 10);
        Check.due("how many changes", x.told(1), 1);
    }

    private static void leavesTheSearchAndWhatWasTold() {
        WidthCampaigns x = Check.busy();
        Check.due("the best has no better pair", x.improve(100), 0);
        Check.due("the search is still there", x.proved(), true);
        Check.runsAsBusy("improve", x);
        WidthCampaigns y = sorted(3, 2, 1, 0);
        y.run(100);
        y.tell(Check.packed(3, 2, 1, 0));
        Check.due("two steps", y.improve(100), 2);
        Check.due("the search is still there behind them", y.proved(), true);
        y.run(3);
        y.tell(Check.packed(3, 2, 1, 0));
        y.improve(100);
        Check.due("steps prove nothing", y.proved(), false);
    }
}

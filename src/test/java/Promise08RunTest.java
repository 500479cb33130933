/** Promise 8: run. */
final class Promise08RunTest {
    public static void main(String[] args) {
        answers();
        refusals();
        bestOrder();
        nodesAreBounded();
        runStartsAnew();
        Check.finish("Promise08RunTest");
    }

    private static void answers() {
        Check.due("no coils", new WidthCampaigns().run(0), 0);
        WidthCampaigns x = Check.ofWidths(5);
        Check.due("no nodes", x.run(0), -1);
        Check.refused("no order then", Check.TURN, () -> x.order(0));
        Check.due("one coil, one node", x.run(1), 1);
        Check.due("found again without nodes", x.run(0), -1);
        Check.refused("the earlier order is gone", Check.TURN, () -> x.told(0));
    }

    private static void refusals() {
        WidthCampaigns x = Check.ofWidths(5, 5);
        x.run(100);
        for (int nodes : new int[] {-1, 100001, Integer.MIN_VALUE, Integer.MAX_VALUE}) {
            Check.refused("nodes out of range", Check.RANGE, () -> x.run(nodes));
        }
        Check.stillThere("refused run", x, true);
        Check.due("most nodes", x.run(100000), 2);
    }

    private static void bestOrder() {
        WidthCampaigns x = Check.ofHardnesses(0, 5, 1, 4);
        x.table(0, 0, 1, 1);
        x.table(0, 2, 3, 3);
        x.table(0, 4, 4, 50);
        x.run(1000);
        Check.due("the least penalty, the first by coils", Check.orderOf(x, 4), 231);
        Check.due("its penalty", x.told(0), 5);
        WidthCampaigns y = Check.ofHardnesses(0, 9, 0, 9);
        y.table(0, 0, 8, 0);
        Check.due("no good order", y.run(1000), -1);
        Check.due("which is proved", y.proved(), true);
    }

    /** Three coils alike: 0, 01, 012 are nodes 1, 2, 3, then 02, 1, 2 are given up at 0 cents. */
    private static void nodesAreBounded() {
        WidthCampaigns x = Check.ofWidths(5, 5, 5);
        Check.due("two nodes are too few", x.run(2), -1);
        Check.due("three nodes find the first order", x.run(3), 3);
        Check.due("but leave coils out", x.proved(), false);
        Check.due("five nodes leave one out", x.run(5) == 3 && !x.proved(), true);
        Check.due("six nodes are all", x.run(6) == 3 && x.proved(), true);

        WidthCampaigns y = Check.ofHardnesses(0, 2, 1);
        y.table(0, 0, 1, 1);
        y.table(0, 2, 2, 5);
        // Nodes: 0, 01, 012 (6 cents), 02, 021 (2 cents).
        y.run(4);
        Check.due("four nodes know the first order only", Check.orderOf(y, 3), 12);
        y.run(5);
        Check.due("five nodes find the better one", Check.orderOf(y, 3), 21);
    }

    private static void runStartsAnew() {
        WidthCampaigns x = Check.ofHardnesses(0, 2, 1);
        x.table(0, 0, 1, 1);
        x.table(0, 2, 2, 5);
        x.run(1000);
        x.run(3);
        Check.due("an earlier best is not remembered", x.told(0), 6);
        x.tell(Check.packed(0, 2, 1));
        x.run(3);
        Check.due("a told order is not remembered", x.told(0), 6);
        Check.due("no order within two nodes", x.run(2), -1);
        Check.refused("told order gone by the search", Check.TURN, () -> x.order(0));
    }
}

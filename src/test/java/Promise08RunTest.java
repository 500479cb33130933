/** Promise 8: run, and the sentences of "Terms" on the best and on the search with its nodes. */
final class Promise08RunTest {
    private static final int[] NO_NODES = {-1, 100001, Integer.MIN_VALUE, Integer.MAX_VALUE};

    public static void main(String[] args) {
        noCoils();
        noNodes();
        oneCoil();
        nineCoils();
        nodesOutOfRange();
        noGoodOrder();
        leastPenalty();
        firstByCoils();
        allCostsCount();
        changesAreWeighed();
        nodesAreUsedUp();
        betterOneWithinNodes();
        coilsThatDoNotFitAreNoNodes();
        givenUpWhenNotBelowTheBest();
        moreThanTheMostNodes();
        runStartsAnew();
        runTellsNothing();
        Check.finish("Promise08RunTest");
    }

    private static void noCoils() {
        for (int nodes : new int[] {0, 1, 100000}) {
            WidthCampaigns x = new WidthCampaigns();
            Check.due("no coils are ordered", x.run(nodes), 0);
            Check.due("an order of none", x.told(0), 0);
        }
    }

    private static void noNodes() {
        for (int coils = 1; coils <= 9; coils++) {
            WidthCampaigns x = Check.alike(coils);
            Check.due("no nodes for " + coils + " coils", x.run(0), -1);
            Check.refused("no order then", Check.TURN, () -> x.order(0));
        }
    }

    private static void oneCoil() {
        WidthCampaigns x = Check.alike(1);
        Check.due("one coil, one node", x.run(1), 1);
        Check.due("its order", x.order(0), 0);
        Check.due("searched again without nodes", x.run(0), -1);
        Check.refused("the earlier order is gone", Check.TURN, () -> x.told(0));
    }

    private static void nineCoils() {
        WidthCampaigns x = Check.alike(9);
        Check.due("eight nodes do not put nine coils", x.run(8), -1);
        Check.due("nine nodes do", x.run(9), 9);
        Check.due("all by numbers", Check.orderOf(x, 9), 12345678);
    }

    private static void nodesOutOfRange() {
        WidthCampaigns x = Check.busy();
        for (int nodes : NO_NODES) {
            Check.refusedAndKept("nodes out of range", Check.RANGE, x, () -> x.run(nodes));
        }
        WidthCampaigns y = Check.alike(2);
        y.run(2);
        y.tell(Check.packed(1, 0));
        for (int nodes : NO_NODES) {
            Check.refusedAndKept("a told order stays", Check.RANGE, y, () -> y.run(nodes));
        }
        WidthCampaigns z = new WidthCampaigns();
        for (int nodes : NO_NODES) {
            Check.refusedAndKept("no search then", Check.RANGE, z, () -> z.run(nodes));
        }
        Check.due("most nodes", y.run(100000), 2);
    }

    private static void noGoodOrder() {
        WidthCampaigns x = Check.ofHardnesses(0, 9, 0, 9);
        x.run(1000);
        x.table(0, 0, 8, 0);
        Check.due("no good order by jumps", x.run(1000), -1);
        Check.refused("there is none then", Check.TURN, () -> x.order(0));
        WidthCampaigns y = Check.ofWidths(1, 2, 3);
        y.rules(0, 1000, 0, 0);
        y.urgent(0, 1);
        Check.due("no good order by widths and places", y.run(1000), -1);
        y.urgent(0, 2);
        Check.due("a good order", y.run(1000), 3);
    }

    private static void leastPenalty() {
        WidthCampaigns x = Check.ofHardnesses(0, 5, 1, 4);
        x.table(0, 0, 1, 1);
        x.table(0, 2, 3, 3);
        x.table(0, 4, 4, 50);
        x.run(1000);
        Check.due("the least penalty, the first by coils", Check.orderOf(x, 4), 231);
        Check.due("its penalty", x.told(0), 5);
    }

    /** Of 012, 021, .. all orders with coil 1 in the middle cost 2: 012 is the first, 210 the last. */
    private static void firstByCoils() {
        WidthCampaigns x = Check.ofHardnesses(0, 1, 2);
        x.table(0, 0, 1, 1);
        x.table(0, 2, 2, 5);
        x.run(1000);
        Check.due("the first of two best", Check.orderOf(x, 3), 12);
        WidthCampaigns y = Check.ofHardnesses(1, 0, 2);
        y.table(0, 0, 1, 1);
        y.table(0, 2, 2, 5);
        y.run(1000);
        Check.due("the first of two best, by coils", Check.orderOf(y, 3), 102);
    }

    private static void allCostsCount() {
        WidthCampaigns x = Check.busy();
        Check.due("order", Check.orderOf(x, 5), 41230);
        Check.due("changes ahead of places 1 and 3", Check.changesOf(x, 5), 1010);
        Check.due("jumps 4, 4, 9, 4, two changes, two moved coils", x.told(0), 21 + 140 + 18);
    }

    /** Of 120 kilometres 60 and 60 must go together: 30, 30 | 40, 20 has one change, 30 | 40 | 30, 20 two. */
    private static void changesAreWeighed() {
        WidthCampaigns x = Check.ofKilometres(60, 30, 40, 30, 20);
        x.run(1000);
        Check.due("fewest changes", Check.orderOf(x, 4), 213);
        Check.due("one change", x.told(0), 10);
        x.old(1, 1);
        x.rules(0, 60, 10, 9);
        x.run(1000);
        Check.due("a moved coil is cheaper, unless none need be", Check.orderOf(x, 4), 3102);
        x.old(0, 0);
        x.rules(0, 60, 10, 9);
        x.run(1000);
        Check.due("9 for a moved coil are below 10 for a change", Check.orderOf(x, 4), 213);
        x.rules(0, 60, 10, 10);
        x.run(1000);
        Check.due("10 are as much: the first by coils", Check.orderOf(x, 4), 123);
        x.rules(0, 60, 0, 9);
        x.run(1000);
        Check.due("changes at no cost", Check.orderOf(x, 4), 123);
    }

    /** Three coils alike: 0, 01, 012 are nodes 1, 2, 3, then 02, 1, 2 are given up at 0 cents. */
    private static void nodesAreUsedUp() {
        WidthCampaigns x = Check.alike(3);
        Check.due("two nodes are too few", x.run(2), -1);
        Check.due("three nodes find the first order", x.run(3), 3);
        Check.due("but leave coils out", x.proved(), false);
        Check.due("five nodes leave one out", x.run(5) == 3 && !x.proved(), true);
        Check.due("six nodes are all", x.run(6) == 3 && x.proved(), true);
    }

    /** Nodes: 0, 01, 012 (6 cents), 02, 021 (2 cents). */
    private static void betterOneWithinNodes() {
        WidthCampaigns x = Check.ofHardnesses(0, 2, 1);
        x.table(0, 0, 1, 1);
        x.table(0, 2, 2, 5);
        x.run(4);
        Check.due("four nodes know the first order only", Check.orderOf(x, 3), 12);
        x.run(5);
        Check.due("five nodes find the better one", Check.orderOf(x, 3), 21);
    }

    private static void coilsThatDoNotFitAreNoNodes() {
        WidthCampaigns byWidth = Check.ofWidths(1, 2, 3);
        byWidth.rules(0, 1000, 0, 0);
        // Nodes: 0, 1, 10, 2, 20, 21, 210.
        Check.due("six nodes of seven, by widths", byWidth.run(6), -1);
        Check.due("seven nodes, by widths", byWidth.run(7) == 3 && byWidth.proved(), true);

        WidthCampaigns byJump = Check.ofHardnesses(0, 9, 8);
        byJump.table(0, 1, 1, 0);
        byJump.table(0, 8, 8, 0);
        // Nodes: 0, 02, 021, then 1 given up at 0 cents, 2 too.
        Check.due("two nodes of three, by jumps", byJump.run(2), -1);
        Check.due("three nodes, by jumps", byJump.run(3), 3);
        Check.due("coils 1 and 2 at place 0 are left out", byJump.run(4) == 3 && !byJump.proved(), true);
        Check.due("five nodes are all", byJump.run(5) == 3 && byJump.proved(), true);

        WidthCampaigns byPlace = Check.alike(3);
        byPlace.urgent(2, 1);
        // Nodes: 0, 01, 02, 021, then 1, 2.
        Check.due("three nodes of four, by last places", byPlace.run(3), -1);
        Check.due("four nodes, by last places", byPlace.run(4), 3);
        Check.due("six nodes are all", byPlace.run(5) == 3 && !byPlace.proved(), true);
        Check.due("indeed", byPlace.run(6) == 3 && byPlace.proved(), true);
    }

    /** A moved coil costs 5 at the very first place: what stands is given up there, but is a node. */
    private static void givenUpWhenNotBelowTheBest() {
        WidthCampaigns x = Check.alike(2);
        x.rules(0, 1000, 0, 5);
        x.old(1, 0);
        // Nodes: 0, 01 (5 cents), 1, 10 (0 cents).
        Check.due("three nodes", x.run(3), 2);
        Check.due("know the first order", Check.orderOf(x, 2), 1);
        Check.due("four nodes find the better one", x.run(4) == 2 && x.proved(), true);
        Check.due("which is", Check.orderOf(x, 2), 10);
        x.old(0, 1);
        x.old(1, 0);
        // Nodes: 0 (5 cents), 01 (10 cents), 1, 10.
        Check.due("below the best so far", x.run(4) == 2 && x.proved(), true);
        Check.due("the best", Check.orderOf(x, 2), 10);
        x.old(0, 0);
        x.old(1, 0);
        // Nodes: 0, 01 (5 cents), 1, 10 (5 cents, not below).
        Check.due("as much as the best", x.run(4) == 2 && x.proved(), true);
        Check.due("is not taken", Check.orderOf(x, 2), 1);
    }

    /**
     * The last coil's hardness fits none, so no order is good: one node for it, and for the other
     * k coils all their rows of every length, 13,699 for seven and 109,600 for eight.
     */
    private static void moreThanTheMostNodes() {
        WidthCampaigns x = Check.ofHardnesses(0, 0, 0, 0, 0, 0, 0, 9);
        x.table(0, 0, 0, 0);
        Check.due("one node too few", x.run(13699) == -1 && !x.proved(), true);
        Check.due("just as many", x.run(13700) == -1 && x.proved(), true);
        WidthCampaigns y = Check.ofHardnesses(0, 0, 0, 0, 0, 0, 0, 0, 9);
        y.table(0, 0, 0, 0);
        Check.due("the most nodes are too few", y.run(100000) == -1 && !y.proved(), true);
    }

    private static void runStartsAnew() {
        WidthCampaigns x = Check.ofHardnesses(0, 2, 1);
        x.table(0, 0, 1, 1);
        x.table(0, 2, 2, 5);
        x.run(1000);
        x.run(3);
        Check.due("an earlier best is not remembered", x.told(0), 6);
        x.tell(Check.packed(0, 2, 1));
        x.run(3);
        Check.due("a told order is not remembered", x.told(0), 6);
        Check.due("no order within two nodes", x.run(2), -1);
        Check.refused("told order gone by the search", Check.TURN, () -> x.order(0));
        Check.due("and found again", x.run(1000), 3);
        Check.due("as at first", x.told(0), 2);
    }

    private static void runTellsNothing() {
        WidthCampaigns x = Check.busy();
        x.run(0);
        x.run(7);
        Check.runsAsBusy("searches leave what was told", x);
    }
}

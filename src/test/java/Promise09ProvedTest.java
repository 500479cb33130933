/** Promise 9: proved, and the sentence of "Terms" on what is proved. */
final class Promise09ProvedTest {
    public static void main(String[] args) {
        noSearch();
        toldOrderIsNoSearch();
        noCoils();
        withoutAnOrder();
        latestSearchCounts();
        refusedSearchIsNone();
        exactNodes();
        onlyCoilsThatFitAreLeftOut();
        givenUpWhenPutAlone();
        keptByTellAndImprove();
        goneByEachTelling();
        keptByEachRefusedTelling();
        Check.finish("Promise09ProvedTest");
    }

    private static void noSearch() {
        WidthCampaigns x = new WidthCampaigns();
        Check.refused("no search", Check.TURN, () -> x.proved());
        x.coil(5, 1, 0, 1);
        Check.refused("no search of a coil", Check.TURN, () -> x.proved());
    }

    private static void toldOrderIsNoSearch() {
        WidthCampaigns x = Check.alike(2);
        x.tell(Check.packed(0, 1));
        x.improve(5);
        Check.refused("a told order is no search", Check.TURN, () -> x.proved());
    }

    private static void noCoils() {
        WidthCampaigns x = new WidthCampaigns();
        x.run(0);
        Check.due("no coils need no nodes", x.proved(), true);
    }

    private static void withoutAnOrder() {
        WidthCampaigns x = Check.alike(2);
        x.run(0);
        Check.due("not proved, without an order", x.proved(), false);
        x.urgent(0, 0);
        x.urgent(1, 0);
        x.run(100);
        Check.refused("there is no order", Check.TURN, () -> x.told(0));
        Check.due("proved that there is none", x.proved(), true);
    }

    private static void latestSearchCounts() {
        WidthCampaigns x = Check.alike(2);
        x.run(3);
        Check.due("proved", x.proved(), true);
        x.run(2);
        Check.due("not proved by the next one", x.proved(), false);
        x.run(3);
        Check.due("proved again", x.proved(), true);
        Check.due("asked twice", x.proved(), true);
    }

    private static void refusedSearchIsNone() {
        WidthCampaigns x = Check.alike(2);
        Check.refused("nodes out of range", Check.RANGE, () -> x.run(-1));
        Check.refused("no search still", Check.TURN, () -> x.proved());
        x.run(2);
        Check.refused("nodes out of range", Check.RANGE, () -> x.run(100001));
        Check.due("the one ahead of it", x.proved(), false);
        x.run(3);
        Check.refused("nodes out of range", Check.RANGE, () -> x.run(-1));
        Check.due("the one ahead of it", x.proved(), true);
    }

    /** Nodes: 0, 01, 1 (given up: 0 cents are not below 0). */
    private static void exactNodes() {
        WidthCampaigns x = Check.alike(2);
        for (int nodes = 0; nodes <= 4; nodes++) {
            x.run(nodes);
            Check.due("nodes " + nodes, x.proved(), nodes >= 3);
        }
        WidthCampaigns y = Check.alike(1);
        y.run(0);
        Check.due("one coil, no node", y.proved(), false);
        y.run(1);
        Check.due("one coil, one node", y.proved(), true);
    }

    /** A coil that does not fit is not left out for want of nodes. */
    private static void onlyCoilsThatFitAreLeftOut() {
        WidthCampaigns x = Check.ofHardnesses(0, 1, 9);
        x.table(0, 0, 1, 0);
        // Nodes: 0, 01, 1, 10, 2; coil 2 fits behind none.
        x.run(4);
        Check.due("coil 2 at place 0 was left out", x.proved(), false);
        Check.due("no order", x.run(5), -1);
        Check.due("coils that do not fit do not count", x.proved(), true);
    }

    /** What stands is looked at when its last coil was put, not again when a better one was found. */
    private static void givenUpWhenPutAlone() {
        WidthCampaigns x = Check.ofHardnesses(0, 1, 1, 1);
        x.table(0, 1, 1, 5);
        x.table(0, 0, 0, 0);
        // Nodes: 0, 01, 012, 0123 (5 cents, found), 013 (put, though 01 has 5 cents already), 02, 03;
        // 1, 10, 12, 120, 123, 1230, 13, 130, 132, 1320, and as many each from 2 and 3 on.
        x.run(36);
        Check.due("36 are too few", x.proved(), false);
        x.run(37);
        Check.due("37 are enough", x.proved(), true);
    }

    private static void keptByTellAndImprove() {
        WidthCampaigns x = Check.alike(2);
        x.run(2);
        x.tell(Check.packed(1, 0));
        Check.due("tell keeps what was not proved", x.proved(), false);
        x.run(3);
        x.tell(Check.packed(1, 0));
        x.improve(3);
        Check.due("tell and improve keep what was proved", x.proved(), true);
        x.urgent(0, 0);
        x.run(0);
        x.tell(Check.packed(0, 1));
        Check.due("tell keeps it behind a search without an order", x.proved(), false);
        Check.due("and is the order", Check.orderOf(x, 2), 1);
    }

    private static void goneByEachTelling() {
        WidthCampaigns x = Check.busy();
        x.coil(5, 1, 0, 1);
        Check.refused("none since a coil", Check.TURN, () -> x.proved());
        x.run(10);
        x.table(0, 0, 0, 0);
        Check.refused("none since a row of hardness", Check.TURN, () -> x.proved());
        x.run(10);
        x.table(1, 0, 0, 0);
        Check.refused("none since a row of thickness", Check.TURN, () -> x.proved());
        x.run(10);
        x.group(1, 1, 1);
        Check.refused("none since a group", Check.TURN, () -> x.proved());
        x.run(10);
        x.urgent(0, 0);
        Check.refused("none since a last place", Check.TURN, () -> x.proved());
        x.run(10);
        x.old(0, -1);
        Check.refused("none since an old place", Check.TURN, () -> x.proved());
        x.run(10);
        x.rules(0, 1, 0, 0);
        Check.refused("none since the rules", Check.TURN, () -> x.proved());
        x.run(100000);
        Check.due("a search since", x.proved(), true);
    }

    private static void keptByEachRefusedTelling() {
        WidthCampaigns x = Check.busy();
        Check.refused("coil", Check.RANGE, () -> x.coil(0, 1, 0, 1));
        Check.refused("table", Check.INDEX, () -> x.table(2, 0, 0, 0));
        Check.refused("group", Check.RANGE, () -> x.group(0, 0, 0));
        Check.refused("urgent", Check.INDEX, () -> x.urgent(5, 0));
        Check.refused("old", Check.RANGE, () -> x.old(0, 9));
        Check.refused("rules", Check.RANGE, () -> x.rules(0, 0, 0, 0));
        Check.refused("tell", Check.INDEX, () -> x.tell(0));
        Check.refused("improve", Check.RANGE, () -> x.improve(101));
        Check.due("the search is still there", x.proved(), true);
    }
}

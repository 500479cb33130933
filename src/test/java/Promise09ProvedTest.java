/** Promise 9: proved. */
final class Promise09ProvedTest {
    public static void main(String[] args) {
        turns();
        exactNodes();
        onlyCoilsThatFitAreLeftOut();
        givenUpWhenPutAlone();
        keptByTellAndImprove();
        Check.finish("Promise09ProvedTest");
    }

    private static void turns() {
        WidthCampaigns x = new WidthCampaigns();
        Check.refused("no search", Check.TURN, () -> x.proved());
        x.tell(0);
        Check.refused("a told order is no search", Check.TURN, () -> x.proved());
        x.run(0);
        Check.due("no coils need no nodes", x.proved(), true);
        x.coil(5, 1, 0, 1);
        Check.refused("none since a coil", Check.TURN, () -> x.proved());
        x.run(0);
        Check.due("a search without an order answers too", x.proved(), false);
        Check.refused("a refused search", Check.RANGE, () -> x.run(-1));
        Check.due("the latest search counts", x.proved(), false);
        x.run(1);
        Check.due("proved", x.proved(), true);
    }

    private static void exactNodes() {
        WidthCampaigns x = Check.ofWidths(5, 5);
        // Nodes: 0, 01, 1 (given up: 0 cents are not below 0).
        x.run(2);
        Check.due("coil 1 was left out", x.proved(), false);
        x.run(3);
        Check.due("none was left out", x.proved(), true);
    }

    /** A coil that does not fit is not left out for want of nodes. */
    private static void onlyCoilsThatFitAreLeftOut() {
        WidthCampaigns x = Check.ofHardnesses(0, 1, 9);
        x.table(0, 0, 1, 0);
        // Nodes: 0, 01, 1, 10, 2; coil 2 fits behind none.
        x.run(4);
        Check.due("coil 2 at place 0 was left out", x.proved(), false);
        Check.due("no order", x.run(5), -1);
        Check.due("coils that do not fit do not count", x.proved(), true);
    }

    /** What stands is looked at when its last coil was put, not again when a better one was found. */
    private static void givenUpWhenPutAlone() {
        WidthCampaigns x = Check.ofHardnesses(0, 1, 1, 1);
        x.table(0, 1, 1, 5);
        x.table(0, 0, 0, 0);
        // Nodes: 0, 01, 012, 0123 (5 cents, found), 013 (put, though 01 has 5 cents already), 02, 03;
        // 1, 10, 12, 120, 123, 1230, 13, 130, 132, 1320, and as many each from 2 and 3 on.
        x.run(36);
        Check.due("36 are too few", x.proved(), false);
        x.run(37);
        Check.due("37 are enough", x.proved(), true);
    }

    private static void keptByTellAndImprove() {
        WidthCampaigns x = Check.ofWidths(5, 5);
        x.run(2);
        x.tell(Check.packed(1, 0));
        Check.due("tell keeps what was not proved", x.proved(), false);
        x.run(3);
        x.tell(Check.packed(1, 0));
        x.improve(3);
        Check.due("tell and improve keep what was proved", x.proved(), true);
    }
}

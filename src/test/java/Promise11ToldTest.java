/** Promise 11: told, and the sentence of "Terms" on the penalty. */
final class Promise11ToldTest {
    private static final int[] NO_WHATS = {-1, 3, 4, Integer.MIN_VALUE, Integer.MAX_VALUE};

    public static void main(String[] args) {
        noSuchWhat();
        noOrder();
        indexAheadOfTurn();
        orderOfNoCoils();
        orderOfOneCoil();
        penaltyIsAllCosts();
        greatestPenalty();
        followsTheOrder();
        Check.finish("Promise11ToldTest");
    }

    private static void noSuchWhat() {
        WidthCampaigns x = Check.busy();
        for (int what : NO_WHATS) {
            Check.refusedAndKept("no such what", Check.INDEX, x, () -> x.told(what));
        }
    }

    private static void noOrder() {
        WidthCampaigns none = new WidthCampaigns();
        WidthCampaigns gone = Check.busy();
        gone.urgent(0, 8);
        WidthCampaigns failed = Check.alike(2);
        failed.run(1);
        for (int what = 0; what <= 2; what++) {
            int its = what;
            Check.refused("no order yet", Check.TURN, () -> none.told(its));
            Check.refused("the order is gone", Check.TURN, () -> gone.told(its));
            Check.refused("no order was found", Check.TURN, () -> failed.told(its));
        }
    }

    private static void indexAheadOfTurn() {
        WidthCampaigns none = new WidthCampaigns();
        WidthCampaigns gone = Check.busy();
        gone.urgent(0, 8);
        for (int what : NO_WHATS) {
            Check.refused("no order, no what", Check.INDEX, () -> none.told(what));
            Check.refused("order gone, no what", Check.INDEX, () -> gone.told(what));
        }
    }

    private static void orderOfNoCoils() {
        WidthCampaigns x = new WidthCampaigns();
        x.rules(0, 1, 10000, 10000);
        x.run(0);
        for (int what = 0; what <= 2; what++) {
            Check.due("an order of no coils", x.told(what), 0);
        }
        Check.refused("no such what", Check.INDEX, () -> x.told(3));
    }

    private static void orderOfOneCoil() {
        WidthCampaigns x = Check.ofKilometres(1, 100);
        x.run(1);
        for (int what = 0; what <= 2; what++) {
            Check.due("an order of one coil", x.told(what), 0);
        }
        x.rules(0, 1, 10000, 10000);
        x.old(0, 8);
        x.run(1);
        Check.due("a moved coil alone", x.told(0), 10000);
        Check.due("no change", x.told(1), 0);
        Check.due("it has moved", x.told(2), 1);
    }

    private static void penaltyIsAllCosts() {
        WidthCampaigns x = new WidthCampaigns();
        x.coil(9, 10, 0, 60);
        x.coil(8, 30, 4, 60);
        x.coil(7, 20, 4, 30);
        x.table(0, 0, 3, 1);
        x.table(0, 4, 9, 200);
        x.table(1, 0, 10, 3000);
        x.table(1, 11, 1000, 5000);
        x.rules(0, 100, 7000, 9);
        x.old(0, 0);
        x.old(1, 2);
        x.old(2, 1);
        x.run(100);
        Check.due("jumps 5200 and 3001, a change, two moved", x.told(0), 5200 + 3001 + 7000 + 18);
        Check.due("changes", x.told(1), 1);
        Check.due("moved", x.told(2), 2);
    }

    /** Nine coils, the dearest jumps of both kinds, eight changes, all coils moved. */
    private static void greatestPenalty() {
        WidthCampaigns x = new WidthCampaigns();
        for (int i = 0; i < 9; i++) {
            x.coil(5, 1, 0, 100);
            x.old(i, (i + 1) % 9);
        }
        x.table(0, 0, 1000, 10000);
        x.table(1, 0, 1000, 10000);
        x.rules(9, 1, 10000, 10000);
        x.tell(Check.packed(0, 1, 2, 3, 4, 5, 6, 7, 8));
        Check.due("the greatest penalty", x.told(0), 8 * 20000 + 8 * 10000 + 9 * 10000);
        Check.due("eight changes", x.told(1), 8);
        Check.due("nine moved coils", x.told(2), 9);
    }

    private static void followsTheOrder() {
        WidthCampaigns x = Check.alike(3);
        x.old(2, 0);
        x.rules(0, 2, 100, 5);
        x.tell(Check.packed(0, 1, 2));
        Check.due("a told order's penalty", x.told(0), 105);
        Check.due("its changes", x.told(1), 1);
        Check.due("its moved coils", x.told(2), 1);
        x.improve(1);
        Check.due("an improved order's penalty", x.told(0), 100);
        Check.due("its changes", x.told(1), 1);
        Check.due("its moved coils", x.told(2), 0);
        x.tell(Check.packed(1, 0, 2));
        x.run(100);
        Check.due("a found order's penalty", x.told(0), 100);
        Check.due("its moved coils", x.told(2), 0);
    }
}

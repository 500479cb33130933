/** Promise 11: told, and the penalty. */
final class Promise11ToldTest {
    public static void main(String[] args) {
        refusals();
        penaltyOfAll();
        Check.finish("Promise11ToldTest");
    }

    private static void refusals() {
        WidthCampaigns x = new WidthCampaigns();
        for (int what : new int[] {-1, 3, Integer.MIN_VALUE, Integer.MAX_VALUE}) {
            Check.refused("index ahead of turn", Check.INDEX, () -> x.told(what));
        }
        for (int what = 0; what <= 2; what++) {
            int its = what;
            Check.refused("no order", Check.TURN, () -> x.told(its));
        }
        x.run(0);
        for (int what = 0; what <= 2; what++) {
            Check.due("an order of no coils", x.told(what), 0);
        }
        Check.refused("no such what", Check.INDEX, () -> x.told(3));
    }

    private static void penaltyOfAll() {
        WidthCampaigns x = new WidthCampaigns();
        x.coil(9, 10, 0, 60);
        x.coil(8, 30, 4, 60);
        x.coil(7, 20, 4, 30);
        x.table(0, 0, 3, 1);
        x.table(0, 4, 9, 200);
        x.table(1, 0, 10, 3000);
        x.table(1, 11, 1000, 5000);
        x.rules(0, 100, 7000, 9);
        x.old(0, 0);
        x.old(1, 2);
        x.old(2, 1);
        x.run(100);
        Check.due("jumps 5200 and 3001, a change, two moved", x.told(0), 5200 + 3001 + 7000 + 18);
        Check.due("changes", x.told(1), 1);
        Check.due("moved", x.told(2), 2);
    }
}

/** Promise 10: order. */
final class Promise10OrderTest {
    public static void main(String[] args) {
        WidthCampaigns x = new WidthCampaigns();
        Check.refused("turn ahead of index", Check.TURN, () -> x.order(-1));
        x.run(0);
        Check.refused("an order without places", Check.INDEX, () -> x.order(0));
        for (int width : new int[] {3, 9, 5, 7}) {
            x.coil(width, 1, 0, 1);
        }
        Check.refused("gone", Check.TURN, () -> x.order(0));
        Check.refused("gone, and no such place", Check.TURN, () -> x.order(4));
        x.run(1000);
        int[] due = {0, 1, 3, 2};
        for (int place = 0; place < 4; place++) {
            Check.due("coil at place " + place, x.order(place), due[place]);
        }
        for (int place : new int[] {-1, 4, 9, Integer.MIN_VALUE, Integer.MAX_VALUE}) {
            Check.refused("no such place", Check.INDEX, () -> x.order(place));
        }
        Check.finish("Promise10OrderTest");
    }
}

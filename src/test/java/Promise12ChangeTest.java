/** Promise 12: change. */
final class Promise12ChangeTest {
    public static void main(String[] args) {
        WidthCampaigns x = new WidthCampaigns();
        Check.refused("turn ahead of index", Check.TURN, () -> x.change(-1));
        x.run(0);
        Check.refused("an order without places", Check.INDEX, () -> x.change(0));
        WidthCampaigns y = Check.ofKilometres(100, 100, 1, 50, 50, 50);
        Check.refused("no order yet", Check.TURN, () -> y.change(0));
        y.tell(Check.packed(0, 1, 2, 3, 4));
        boolean[] due = {false, true, false, true, false};
        for (int place = 0; place < 5; place++) {
            Check.due("change ahead of place " + place, y.change(place), due[place]);
        }
        for (int place : new int[] {-1, 5, 9, Integer.MIN_VALUE, Integer.MAX_VALUE}) {
            Check.refused("no such place", Check.INDEX, () -> y.change(place));
        }
        y.tell(Check.packed(1, 2, 0, 3, 4));
        Check.due("changes of another order", Check.changesOf(y, 5), 110);
        y.rules(0, 100, 0, 0);
        Check.refused("the order is gone", Check.TURN, () -> y.change(9));
        Check.finish("Promise12ChangeTest");
    }
}

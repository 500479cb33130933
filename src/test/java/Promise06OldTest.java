/** Promise 6: old. */
final class Promise06OldTest {
    public static void main(String[] args) {
        oldPlaces();
        refusals();
        orderIsGone();
        Check.finish("Promise06OldTest");
    }

    private static void oldPlaces() {
        WidthCampaigns x = Check.ofWidths(5, 5, 5);
        x.rules(0, 1000, 100, 7);
        x.run(100);
        Check.due("no old places at first", x.told(2), 0);
        x.old(2, 0);
        x.run(100);
        Check.due("a coil keeps its old place", Check.orderOf(x, 3), 201);
        Check.due("at no cost", x.told(0), 0);
        x.tell(Check.packed(0, 1, 2));
        Check.due("a coil elsewhere costs", x.told(0), 7);
        Check.due("a coil elsewhere is counted", x.told(2), 1);
        x.old(1, 0);
        x.run(100);
        Check.due("two coils of one old place", x.told(0), 7);
        Check.due("the first of the best", Check.orderOf(x, 3), 102);
        x.old(0, 8);
        x.run(100);
        Check.due("an old place that no order has", x.told(2), 2);
        x.old(0, -1);
        x.old(1, -1);
        x.old(2, -1);
        x.run(100);
        Check.due("no old places any more", x.told(0), 0);
        Check.due("no moved coils any more", x.told(2), 0);
    }

    private static void refusals() {
        WidthCampaigns x = Check.ofWidths(5, 5);
        for (int coil : new int[] {-1, 2, 9, Integer.MIN_VALUE, Integer.MAX_VALUE}) {
            Check.refused("no such coil", Check.INDEX, () -> x.old(coil, 0));
            Check.refused("index ahead of range", Check.INDEX, () -> x.old(coil, 9));
        }
        for (int place : new int[] {-2, 9, Integer.MIN_VALUE, Integer.MAX_VALUE}) {
            Check.refused("no such place", Check.RANGE, () -> x.old(0, place));
        }
    }

    private static void orderIsGone() {
        WidthCampaigns x = Check.ofWidths(5, 5);
        x.run(100);
        Check.refused("no such coil", Check.INDEX, () -> x.old(2, 0));
        Check.refused("no such place", Check.RANGE, () -> x.old(1, 9));
        Check.stillThere("refused old", x, true);
        x.old(1, -1);
        Check.stillThere("old", x, false);
    }
}

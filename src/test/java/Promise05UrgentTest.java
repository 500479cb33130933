/** Promise 5: urgent. */
final class Promise05UrgentTest {
    public static void main(String[] args) {
        lastPlaces();
        refusals();
        orderIsGone();
        Check.finish("Promise05UrgentTest");
    }

    private static void lastPlaces() {
        WidthCampaigns x = Check.ofWidths(5, 5, 5, 5);
        x.urgent(3, 0);
        x.run(1000);
        Check.due("urgent coil first", Check.orderOf(x, 4), 3012);
        x.urgent(2, 1);
        x.run(1000);
        Check.due("two urgent coils", Check.orderOf(x, 4), 3201);
        x.urgent(3, 2);
        x.run(1000);
        Check.due("the latest last place counts", Check.orderOf(x, 4), 231);
        x.urgent(2, 0);
        x.urgent(3, 0);
        Check.due("two coils at one place", x.run(1000), -1);
        x.urgent(2, 8);
        x.urgent(3, 8);
        x.run(1000);
        Check.due("last place 8 binds none of four", Check.orderOf(x, 4), 123);
    }

    private static void refusals() {
        WidthCampaigns x = Check.ofWidths(5, 5);
        for (int coil : new int[] {-1, 2, 9, Integer.MIN_VALUE, Integer.MAX_VALUE}) {
            Check.refused("no such coil", Check.INDEX, () -> x.urgent(coil, 0));
            Check.refused("index ahead of range", Check.INDEX, () -> x.urgent(coil, 9));
        }
        for (int last : new int[] {-1, 9, Integer.MIN_VALUE, Integer.MAX_VALUE}) {
            Check.refused("no such place", Check.RANGE, () -> x.urgent(0, last));
        }
    }

    private static void orderIsGone() {
        WidthCampaigns x = Check.ofWidths(5, 5);
        x.run(100);
        Check.refused("no such coil", Check.INDEX, () -> x.urgent(2, 0));
        Check.refused("no such place", Check.RANGE, () -> x.urgent(1, 9));
        Check.stillThere("refused urgent", x, true);
        x.urgent(1, 8);
        Check.stillThere("urgent", x, false);
    }
}

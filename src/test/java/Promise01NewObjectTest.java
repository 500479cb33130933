/** Promise 1: a new object has no coils, tables, groups and no order. */
final class Promise01NewObjectTest {
    public static void main(String[] args) {
        WidthCampaigns x = new WidthCampaigns();
        Check.refused("order", Check.TURN, () -> x.order(0));
        Check.refused("change", Check.TURN, () -> x.change(0));
        Check.refused("told", Check.TURN, () -> x.told(0));
        Check.refused("improve", Check.TURN, () -> x.improve(1));
        Check.refused("proved", Check.TURN, () -> x.proved());
        Check.refused("urgent", Check.INDEX, () -> x.urgent(0, 0));
        Check.refused("old", Check.INDEX, () -> x.old(0, 0));
        Check.refused("jump", Check.INDEX, () -> x.jump(0, 1));
        Check.due("bound", x.bound(), 0);
        Check.due("the first coil", x.coil(1, 1, 0, 1), 0);
        Check.due("the first row of hardness", x.table(0, 0, 0, 0), 1);
        Check.due("the first row of thickness", x.table(1, 0, 0, 0), 1);
        Check.due("the first group", x.group(1, 1, 1), 1);
        firstRules();
        objectsDoNotShare();
        Check.finish("Promise01NewObjectTest");
    }

    /** Rise 2, wear 1,000, 100 cents a change, 0 a moved coil. */
    private static void firstRules() {
        WidthCampaigns x = Check.ofWidths(10, 20, 5);
        x.tell(Check.packed(0, 1, 2));
        Check.due("rise 2 lets the second coil be wider", Check.orderOf(x, 3), 12);
        Check.refused("rise 2 keeps the first two from falling", Check.MEANING,
                () -> x.tell(Check.packed(1, 0, 2)));
        x.old(0, 8);
        x.run(100);
        Check.due("a moved coil costs nothing", x.told(0), 0);
        Check.due("a moved coil is counted", x.told(2), 1);

        WidthCampaigns y = new WidthCampaigns();
        for (int i = 0; i < 9; i++) {
            y.coil(5, 1, 0, 100);
        }
        y.run(20);
        Check.due("900 kilometres are not above the wear", y.told(1), 0);
        y.group(5, 5, 899);
        y.run(20);
        Check.due("a change costs 100", y.told(0), 100);
    }

    private static void objectsDoNotShare() {
        WidthCampaigns one = Check.ofWidths(1, 2);
        one.run(10);
        WidthCampaigns other = new WidthCampaigns();
        Check.refused("another object has no order", Check.TURN, () -> other.told(0));
        Check.due("another object's first coil", other.coil(1, 1, 0, 1), 0);
        Check.due("the first object keeps its order", Check.orderOf(one, 2), 1);
    }
}

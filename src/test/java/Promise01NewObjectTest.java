/** Promise 1: a new object has no coils, tables, groups and no order. */
final class Promise01NewObjectTest {
    public static void main(String[] args) {
        noCoils();
        noTables();
        noGroups();
        noOrder();
        firstRise();
        firstWear();
        firstCosts();
        objectsDoNotShare();
        Check.finish("Promise01NewObjectTest");
    }

    private static void noCoils() {
        WidthCampaigns x = new WidthCampaigns();
        Check.refused("urgent", Check.INDEX, () -> x.urgent(0, 0));
        Check.refused("old", Check.INDEX, () -> x.old(0, 0));
        Check.refused("jump", Check.INDEX, () -> x.jump(0, 1));
        Check.refused("jump of one", Check.INDEX, () -> x.jump(0, 0));
        Check.due("bound", x.bound(), 0);
        Check.due("none are ordered", x.run(100000), 0);
        Check.due("the first coil", x.coil(1, 1, 0, 1), 0);
    }

    private static void noTables() {
        WidthCampaigns x = new WidthCampaigns();
        x.coil(1, 1, 0, 1);
        x.coil(1, 1000, 9, 1);
        Check.due("all jumps cost 0", x.jump(0, 1), 0);
        Check.due("the first row of hardness", x.table(0, 0, 0, 0), 1);
        Check.due("the first row of thickness", x.table(1, 0, 0, 0), 1);
    }

    private static void noGroups() {
        WidthCampaigns x = Check.ofKilometres(1000, 100, 100, 100);
        x.tell(Check.packed(0, 1, 2));
        Check.due("no group asks for a change", x.told(1), 0);
        Check.due("the first group", x.group(1, 1, 1), 1);
    }

    private static void noOrder() {
        Check.allGone("a new object", new WidthCampaigns());
    }

    private static void firstRise() {
        WidthCampaigns x = Check.ofWidths(10, 20, 5);
        x.tell(Check.packed(0, 1, 2));
        Check.due("rise 2 lets the second coil be wider", Check.orderOf(x, 3), 12);
        Check.refused("rise 2 keeps the first two from falling", Check.MEANING,
                () -> x.tell(Check.packed(1, 0, 2)));
        WidthCampaigns y = Check.ofWidths(10, 20, 30);
        Check.refused("the third coil is behind the rise", Check.MEANING, () -> y.tell(Check.packed(0, 1, 2)));
    }

    /** Nine coils have 900 kilometres at most, so a wear of 1,000 asks for no change. */
    private static void firstWear() {
        WidthCampaigns x = new WidthCampaigns();
        for (int i = 0; i < 9; i++) {
            x.coil(5, 1, 0, 100);
        }
        x.run(20);
        Check.due("900 kilometres are not above the wear", x.told(1), 0);
    }

    private static void firstCosts() {
        WidthCampaigns x = Check.ofWidths(5, 5);
        x.old(0, 8);
        x.old(1, 8);
        x.group(5, 5, 19);
        x.run(100);
        Check.due("a change costs 100, moved coils 0", x.told(0), 100);
        Check.due("a change is counted", x.told(1), 1);
        Check.due("moved coils are counted", x.told(2), 2);
    }

    private static void objectsDoNotShare() {
        WidthCampaigns one = Check.busy();
        String before = Check.allAnswers(one);
        WidthCampaigns other = new WidthCampaigns();
        Check.allGone("another object", other);
        Check.due("another object's first coil", other.coil(1, 1, 0, 1), 0);
        Check.due("another object's first row", other.table(0, 0, 0, 0), 1);
        Check.due("another object's first group", other.group(1, 1, 1), 1);
        other.rules(0, 1, 1, 1);
        other.run(0);
        Check.same("the first object keeps its own", Check.allAnswers(one), before);
        Check.runsAsBusy("the first object", one);
    }
}

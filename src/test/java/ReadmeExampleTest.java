/** The example of README.md, call by call, with the answers that its comments tell. */
final class ReadmeExampleTest {
    public static void main(String[] args) {
        WidthCampaigns x = new WidthCampaigns();
        told(x);
        asked(x);
        Check.due("run", x.run(1000), 3);
        Check.due("proved", x.proved(), true);
        Check.due("order", Check.orderOf(x, 3), 12);
        Check.due("change ahead of place 2", x.change(2), true);
        Check.due("penalty", x.told(0), 40);
        Check.due("changes", x.told(1), 1);
        Check.due("moved coils", x.told(2), 0);
        x.tell(0x012L);
        Check.due("the told order's penalty", x.told(0), 50);
        Check.due("steps", x.improve(10), 1);
        Check.due("the improved order", Check.orderOf(x, 3), 12);
        Check.due("its penalty", x.told(0), 40);
        Check.finish("ReadmeExampleTest");
    }

    private static void told(WidthCampaigns x) {
        Check.due("coil 0", x.coil(100, 5, 1, 40), 0);
        Check.due("coil 1", x.coil(120, 9, 3, 40), 1);
        Check.due("coil 2", x.coil(110, 5, 1, 40), 2);
        Check.due("rows", x.table(0, 0, 3, 5), 1);
        Check.due("groups", x.group(100, 110, 60), 1);
        x.urgent(1, 1);
        x.old(2, 2);
        x.rules(2, 100, 30, 10);
    }

    private static void asked(WidthCampaigns x) {
        Check.due("jump", x.jump(0, 1), 5);
        Check.due("bound", x.bound(), 10);
    }
}

/** Promise 14: bound. */
final class Promise14BoundTest {
    public static void main(String[] args) {
        WidthCampaigns x = new WidthCampaigns();
        Check.due("no coils", x.bound(), 0);
        x.coil(5, 1, 0, 1);
        x.table(0, 0, 1, 4);
        x.table(0, 2, 3, 7);
        x.table(0, 4, 4, 20);
        Check.due("one coil", x.bound(), 0);
        x.coil(5, 1, 1, 1);
        Check.due("two coils, 4 and 4", x.bound(), 4);
        x.coil(5, 1, 3, 1);
        Check.due("4, 4 and 7 less 7", x.bound(), 8);
        x.coil(5, 1, 7, 1);
        Check.due("4, 4, 7 and 20 less 20", x.bound(), 15);
        x.coil(5, 1, 2, 1);
        Check.due("4, 4, 4, 20 and 4 less 20", x.bound(), 16);
        x.run(1000);
        Check.due("the order stays", x.told(0) >= x.bound(), true);

        WidthCampaigns y = Check.ofHardnesses(0, 1, 9);
        y.table(0, 1, 1, 6);
        Check.due("6 and 6 and none less 6", y.bound(), 6);
        y.table(0, 9, 9, 0);
        Check.due("an allowed jump at no cost", y.bound(), 0);
        WidthCampaigns z = Check.ofHardnesses(0, 3);
        z.table(0, 5, 9, 1);
        Check.due("no allowed jumps", z.bound(), 0);
        Check.finish("Promise14BoundTest");
    }
}

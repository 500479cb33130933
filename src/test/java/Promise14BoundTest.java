/** Promise 14: bound, and the sentence of "Terms" on it. */
final class Promise14BoundTest {
    public static void main(String[] args) {
        noCoils();
        oneCoil();
        withoutRows();
        sumLessTheGreatest();
        greatestIsTakenOffOnce();
        noneAllowed();
        allowedAtNoCost();
        greatestBound();
        widthsAndPlacesAreNotAsked();
        orderIsLeftAlone();
        Check.finish("Promise14BoundTest");
    }

    private static void noCoils() {
        WidthCampaigns x = new WidthCampaigns();
        Check.due("no coils", x.bound(), 0);
        x.table(0, 0, 1000, 10000);
        Check.due("no coils, but rows", x.bound(), 0);
    }

    private static void oneCoil() {
        WidthCampaigns x = Check.alike(1);
        x.table(0, 0, 1000, 10000);
        Check.due("one coil has no other", x.bound(), 0);
    }

    private static void withoutRows() {
        WidthCampaigns x = Check.ofHardnesses(0, 3, 9);
        Check.due("all jumps cost 0", x.bound(), 0);
    }

    private static void sumLessTheGreatest() {
        WidthCampaigns x = new WidthCampaigns();
        x.table(0, 0, 1, 4);
        x.table(0, 2, 3, 7);
        x.table(0, 4, 4, 20);
        x.coil(5, 1, 0, 1);
        x.coil(5, 1, 1, 1);
        Check.due("4 and 4 less 4", x.bound(), 4);
        x.coil(5, 1, 3, 1);
        Check.due("4, 4 and 7 less 7", x.bound(), 8);
        x.coil(5, 1, 7, 1);
        Check.due("4, 4, 7 and 20 less 20", x.bound(), 15);
        x.coil(5, 1, 2, 1);
        Check.due("4, 4, 4, 20 and 4 less 20", x.bound(), 16);
    }

    private static void greatestIsTakenOffOnce() {
        WidthCampaigns x = Check.ofHardnesses(0, 0, 5, 5);
        x.table(0, 0, 0, 6);
        Check.due("four times 6 less 6", x.bound(), 18);
        WidthCampaigns y = Check.ofHardnesses(9, 0, 1);
        y.table(0, 1, 1, 3);
        y.table(0, 8, 9, 50);
        Check.due("50, 3 and 3 less 50, the first coil's", y.bound(), 6);
    }

    private static void noneAllowed() {
        WidthCampaigns x = Check.ofHardnesses(0, 3);
        x.table(0, 5, 9, 1);
        Check.due("no allowed jumps", x.bound(), 0);
        WidthCampaigns y = Check.ofHardnesses(0, 1, 9);
        y.table(0, 1, 1, 6);
        Check.due("6 and 6 and none less 6", y.bound(), 6);
        WidthCampaigns z = Check.ofHardnesses(9, 0, 1);
        z.table(0, 1, 1, 6);
        Check.due("none, 6 and 6 less 6", z.bound(), 6);
    }

    private static void allowedAtNoCost() {
        WidthCampaigns x = Check.ofHardnesses(0, 1, 9);
        x.table(0, 1, 1, 6);
        x.table(0, 9, 9, 0);
        Check.due("0, 6 and 0 less 6", x.bound(), 0);
        x.coil(5, 1, 2, 1);
        Check.due("0, 6, 0 and 6 less 6", x.bound(), 6);
    }

    private static void greatestBound() {
        WidthCampaigns x = Check.alike(9);
        x.table(0, 0, 1000, 10000);
        x.table(1, 0, 1000, 10000);
        Check.due("nine times 20,000 less one", x.bound(), 160000);
    }

    private static void widthsAndPlacesAreNotAsked() {
        WidthCampaigns x = Check.ofWidths(1, 2000);
        x.table(0, 0, 0, 9);
        x.rules(0, 1, 10000, 10000);
        x.urgent(0, 0);
        x.urgent(1, 0);
        x.old(0, 1);
        x.group(1, 2000, 1);
        Check.due("no good order", x.run(100), -1);
        Check.due("9 and 9 less 9, of jumps alone", x.bound(), 9);
    }

    private static void orderIsLeftAlone() {
        WidthCampaigns x = Check.busy();
        Check.due("4, 4, 4, 4 and 4 less 4", x.bound(), 16);
        Check.due("the order stays", Check.orderOf(x, 5), 41230);
        Check.due("the search stays", x.proved(), true);
        Check.due("no order is below it", x.told(0) >= x.bound(), true);
        x.old(0, 0);
        Check.due("without an order", x.bound(), 16);
    }
}

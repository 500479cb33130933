/** Promise 13: jump. */
final class Promise13JumpTest {
    private static final int[] NEVER_COILS = {-1, 9, 10, Integer.MIN_VALUE, Integer.MAX_VALUE};

    public static void main(String[] args) {
        withoutRows();
        bothKinds();
        oneKindForbids();
        zeroIsNoRow();
        sameBothWays();
        coilsAndRowsInAnyOrder();
        noSuchCoils();
        oneCoilTwice();
        widthsAndPlacesAreNotAsked();
        orderIsLeftAlone();
        Check.finish("Promise13JumpTest");
    }

    private static void withoutRows() {
        WidthCampaigns x = new WidthCampaigns();
        x.coil(5, 1, 0, 1);
        x.coil(5, 1000, 9, 1);
        Check.due("the greatest jump without rows", x.jump(0, 1), 0);
        Check.due("the other way", x.jump(1, 0), 0);
    }

    private static void bothKinds() {
        WidthCampaigns x = new WidthCampaigns();
        x.coil(5, 10, 2, 1);
        x.coil(5, 13, 6, 1);
        x.coil(5, 30, 2, 1);
        x.table(0, 4, 4, 10);
        Check.due("hardness alone", x.jump(0, 1), 10);
        Check.due("a size in no row", x.jump(0, 2), -1);
        x.table(0, 0, 0, 0);
        Check.due("a later row", x.jump(0, 2), 0);
        x.table(1, 3, 19, 7);
        Check.due("both kinds", x.jump(0, 1), 17);
        Check.due("the row's upper edge is passed", x.jump(2, 0), -1);
        x.table(1, 20, 20, 10000);
        Check.due("the row's own size", x.jump(2, 0), 10000);
        Check.due("17 within 3 .. 19", x.jump(1, 2), 17);
    }

    private static void oneKindForbids() {
        WidthCampaigns x = new WidthCampaigns();
        x.coil(5, 10, 0, 1);
        x.coil(5, 50, 5, 1);
        x.coil(5, 55, 9, 1);
        x.coil(5, 12, 9, 1);
        x.table(0, 0, 5, 10);
        x.table(1, 0, 10, 3);
        Check.due("hardness allows it, thickness does not", x.jump(0, 1), -1);
        Check.due("both allow it", x.jump(1, 2), 13);
        Check.due("neither allows it", x.jump(0, 2), -1);
        Check.due("thickness allows it, hardness does not", x.jump(0, 3), -1);
    }

    private static void zeroIsNoRow() {
        WidthCampaigns x = Check.alike(2);
        x.table(0, 1, 1000, 5);
        Check.due("the size 0 is in no row of hardness", x.jump(0, 1), -1);
        WidthCampaigns y = Check.alike(2);
        y.table(1, 1, 1000, 5);
        Check.due("the size 0 is in no row of thickness", y.jump(0, 1), -1);
        y.table(1, 0, 0, 0);
        Check.due("a row of the size 0, at no cost", y.jump(0, 1), 0);
    }

    private static void sameBothWays() {
        WidthCampaigns x = Check.busy();
        for (int a = 0; a < 5; a++) {
            for (int b = 0; b < 5; b++) {
                if (a != b) {
                    Check.due("jumps have no sign", x.jump(a, b), x.jump(b, a));
                }
            }
        }
    }

    private static void coilsAndRowsInAnyOrder() {
        WidthCampaigns x = new WidthCampaigns();
        x.table(0, 3, 3, 4);
        x.coil(5, 1, 1, 1);
        x.coil(5, 1, 4, 1);
        Check.due("rows ahead of coils", x.jump(0, 1), 4);
        x.table(1, 0, 0, 6);
        Check.due("a row behind coils", x.jump(0, 1), 10);
        x.coil(5, 1, 7, 1);
        Check.due("a coil behind rows", x.jump(1, 2), 10);
        Check.due("and from it", x.jump(2, 1), 10);
        Check.due("not allowed", x.jump(0, 2), -1);
    }

    private static void noSuchCoils() {
        WidthCampaigns none = new WidthCampaigns();
        Check.refused("no coils", Check.INDEX, () -> none.jump(0, 1));
        for (int coils = 1; coils <= 9; coils++) {
            int its = coils;
            WidthCampaigns x = Check.alike(coils);
            x.run(100);
            if (coils > 1) {
                Check.due("the last coil", x.jump(coils - 1, 0) + x.jump(0, coils - 1), 0);
            }
            Check.refusedAndKept("first number beyond, from", Check.INDEX, x, () -> x.jump(its, 0));
            Check.refusedAndKept("first number beyond, to", Check.INDEX, x, () -> x.jump(0, its));
            for (int coil : NEVER_COILS) {
                Check.refused("no such coil, from", Check.INDEX, () -> x.jump(coil, 0));
                Check.refused("no such coil, to", Check.INDEX, () -> x.jump(0, coil));
                Check.refused("no such coils", Check.INDEX, () -> x.jump(coil, coil));
            }
        }
    }

    private static void oneCoilTwice() {
        WidthCampaigns x = Check.alike(9);
        for (int coil = 0; coil < 9; coil++) {
            int its = coil;
            Check.refused("they are one", Check.INDEX, () -> x.jump(its, its));
        }
    }

    private static void widthsAndPlacesAreNotAsked() {
        WidthCampaigns x = Check.ofWidths(1, 2000);
        x.rules(0, 1, 10000, 10000);
        x.urgent(0, 0);
        x.urgent(1, 0);
        x.old(1, 0);
        Check.due("a jump that no good order has", x.jump(0, 1), 0);
    }

    private static void orderIsLeftAlone() {
        WidthCampaigns x = Check.busy();
        Check.due("a jump", x.jump(0, 1), 14);
        Check.due("the order stays", Check.orderOf(x, 5), 41230);
        Check.due("the search stays", x.proved(), true);
    }
}

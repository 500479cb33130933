/** Promise 15: tell, and the sentences of "Terms" on a good order. */
final class Promise15TellTest {
    public static void main(String[] args) {
        noCoils();
        oneCoil();
        nineCoils();
        bitsBehindTheLastPlace();
        coilThatIsNone();
        coilToldTwice();
        indexAheadOfMeaning();
        notAllowedJump();
        widthsNotGood();
        behindItsLastPlace();
        tooManyKilometresAreGood();
        refusedLeavesTheOrder();
        refusedWithoutAnOrder();
        toldThoughNoneWasFound();
        toldIsNotTheBest();
        Check.finish("Promise15TellTest");
    }

    private static void noCoils() {
        for (long order : new long[] {0L, -1L, 1L, Long.MIN_VALUE, Long.MAX_VALUE}) {
            WidthCampaigns x = new WidthCampaigns();
            x.tell(order);
            Check.due("no coils: nothing is read", x.told(0), 0);
            Check.due("improve has an order", x.improve(1), 0);
        }
    }

    private static void oneCoil() {
        WidthCampaigns x = Check.alike(1);
        x.tell(0);
        Check.due("coil 0", x.order(0), 0);
        for (int coil = 1; coil <= 15; coil++) {
            long its = coil;
            Check.refusedAndKept("no coil " + coil, Check.INDEX, x, () -> x.tell(its));
        }
    }

    private static void nineCoils() {
        WidthCampaigns x = Check.alike(9);
        x.tell(Check.packed(8, 7, 6, 5, 4, 3, 2, 1, 0));
        Check.due("place 0 in bits 0 to 3, place 8 in bits 32 to 35", Check.orderOf(x, 9), 876543210L);
        x.tell(0x876543210L);
        Check.due("written out", Check.orderOf(x, 9), 12345678);
    }

    private static void bitsBehindTheLastPlace() {
        WidthCampaigns x = Check.alike(9);
        x.tell(Check.packed(1, 0, 2, 3, 4, 5, 6, 7, 8) | -1L << 36);
        Check.due("all bits behind nine places", Check.orderOf(x, 9), 102345678L);
        WidthCampaigns y = Check.alike(2);
        y.tell(0x501L);
        Check.due("a coil that is none behind two places", Check.orderOf(y, 2), 10);
        y.tell(0x110L);
        Check.due("a coil told twice behind two places", Check.orderOf(y, 2), 1);
    }

    private static void coilThatIsNone() {
        for (int coils = 2; coils <= 9; coils++) {
            WidthCampaigns x = Check.alike(coils);
            x.run(100);
            for (int place = 0; place < coils; place++) {
                int[] row = new int[coils];
                for (int coil = 0; coil < coils; coil++) {
                    row[coil] = coil;
                }
                row[place] = coils;
                Check.refusedAndKept("the first coil that is none", Check.INDEX, x, () -> x.tell(Check.packed(row)));
                row[place] = 15;
                Check.refusedAndKept("coil 15", Check.INDEX, x, () -> x.tell(Check.packed(row)));
            }
        }
    }

    private static void coilToldTwice() {
        for (int first = 0; first < 9; first++) {
            for (int second = first + 1; second < 9; second++) {
                int[] row = {0, 1, 2, 3, 4, 5, 6, 7, 8};
                row[second] = row[first];
                WidthCampaigns x = Check.alike(9);
                Check.refused("told twice", Check.INDEX, () -> x.tell(Check.packed(row)));
            }
        }
        WidthCampaigns y = Check.alike(3);
        for (long order : new long[] {0L, -1L, Long.MIN_VALUE, Long.MAX_VALUE, Check.packed(0, 1)}) {
            Check.refused("none or twice", Check.INDEX, () -> y.tell(order));
        }
    }

    private static void indexAheadOfMeaning() {
        WidthCampaigns x = Check.ofWidths(5, 9, 7);
        x.rules(0, 1000, 0, 0);
        x.run(100);
        Check.refusedAndKept("not good, and told twice", Check.INDEX, x, () -> x.tell(Check.packed(0, 1, 1)));
        Check.refusedAndKept("not good, and none", Check.INDEX, x, () -> x.tell(Check.packed(0, 1, 3)));
        Check.refusedAndKept("not good", Check.MEANING, x, () -> x.tell(Check.packed(0, 1, 2)));
    }

    private static void notAllowedJump() {
        WidthCampaigns x = Check.ofHardnesses(0, 1, 2);
        x.table(0, 0, 1, 0);
        Check.refused("the last jump", Check.MEANING, () -> x.tell(Check.packed(1, 0, 2)));
        Check.refused("the first jump", Check.MEANING, () -> x.tell(Check.packed(0, 2, 1)));
        x.tell(Check.packed(2, 1, 0));
        Check.due("allowed jumps", Check.orderOf(x, 3), 210);
    }

    private static void widthsNotGood() {
        WidthCampaigns x = Check.ofWidths(5, 9, 7);
        x.rules(3, 1000, 0, 0);
        Check.refused("falls within the rise", Check.MEANING, () -> x.tell(Check.packed(0, 1, 2)));
        x.tell(Check.packed(0, 2, 1));
        Check.due("rises", Check.orderOf(x, 3), 21);
        x.rules(1, 1000, 0, 0);
        Check.refused("rises behind the rise", Check.MEANING, () -> x.tell(Check.packed(2, 1, 0)));
        x.tell(Check.packed(1, 2, 0));
        Check.due("falls from the first on", Check.orderOf(x, 3), 120);
        x.rules(0, 1000, 0, 0);
        Check.refused("rises with rise 0", Check.MEANING, () -> x.tell(Check.packed(2, 1, 0)));
        x.tell(Check.packed(1, 2, 0));
        Check.due("falls from the first on, rise 0", Check.orderOf(x, 3), 120);
    }

    private static void behindItsLastPlace() {
        WidthCampaigns x = Check.alike(3);
        x.urgent(0, 1);
        Check.refused("behind its last place", Check.MEANING, () -> x.tell(Check.packed(2, 1, 0)));
        x.tell(Check.packed(2, 0, 1));
        Check.due("at its last place", Check.orderOf(x, 3), 201);
        x.tell(Check.packed(0, 2, 1));
        Check.due("ahead of its last place", Check.orderOf(x, 3), 21);
    }

    private static void tooManyKilometresAreGood() {
        WidthCampaigns x = Check.ofKilometres(1, 100, 100);
        x.group(1, 2000, 1);
        x.tell(Check.packed(1, 0));
        Check.due("good, with a change", Check.changesOf(x, 2), 1);
    }

    private static void refusedLeavesTheOrder() {
        WidthCampaigns x = Check.busy();
        Check.refusedAndKept("told twice", Check.INDEX, x, () -> x.tell(Check.packed(4, 1, 2, 3, 3)));
        Check.refusedAndKept("a coil that is none", Check.INDEX, x, () -> x.tell(Check.packed(0, 1, 2, 3, 5)));
        Check.refusedAndKept("not good at once", Check.MEANING, x, () -> x.tell(Check.packed(1, 0, 2, 3, 4)));
        Check.refusedAndKept("not good at the end", Check.MEANING, x, () -> x.tell(Check.packed(0, 4, 1, 3, 2)));
        Check.due("improve goes on from the order that stands", x.improve(5), 0);
        Check.due("which stays", Check.orderOf(x, 5), 41230);
        Check.runsAsBusy("refused orders", x);
    }

    private static void refusedWithoutAnOrder() {
        WidthCampaigns x = Check.ofWidths(5, 9, 7);
        Check.refusedAndKept("told twice", Check.INDEX, x, () -> x.tell(0));
        Check.refusedAndKept("not good", Check.MEANING, x, () -> x.tell(Check.packed(1, 0, 2)));
        Check.allGone("there is still no order", x);
    }

    private static void toldThoughNoneWasFound() {
        WidthCampaigns x = Check.alike(3);
        x.run(2);
        Check.refused("none was found", Check.TURN, () -> x.order(0));
        x.tell(Check.packed(2, 1, 0));
        Check.due("it is the order then", Check.orderOf(x, 3), 210);
    }

    private static void toldIsNotTheBest() {
        WidthCampaigns x = Check.alike(3);
        x.rules(0, 1000, 0, 5);
        x.old(0, 0);
        x.run(100);
        Check.due("the best", x.told(0), 0);
        x.tell(Check.packed(1, 0, 2));
        Check.due("a worse one is the order too", Check.orderOf(x, 3), 102);
        Check.due("with its own penalty", x.told(0), 5);
    }
}

/** Promise 15: tell. */
final class Promise15TellTest {
    public static void main(String[] args) {
        orders();
        refusals();
        refusedOrdersLeaveTheOld();
        notGood();
        Check.finish("Promise15TellTest");
    }

    private static void orders() {
        WidthCampaigns x = new WidthCampaigns();
        x.tell(-1L);
        Check.due("no coils: nothing is read", x.told(0), 0);
        for (int i = 0; i < 9; i++) {
            x.coil(5, 1, 0, 1);
        }
        x.tell(Check.packed(8, 7, 6, 5, 4, 3, 2, 1, 0));
        Check.due("nine coils", Check.orderOf(x, 9), 876543210L);
        x.tell(Check.packed(1, 0, 2, 3, 4, 5, 6, 7, 8) | -1L << 36);
        Check.due("bits behind the last place say nothing", Check.orderOf(x, 9), 102345678L);
    }

    private static void refusals() {
        WidthCampaigns x = Check.ofWidths(5, 5, 5);
        long[] wrong = {
            Check.packed(0, 1, 3), Check.packed(3, 1, 0), Check.packed(0, 15, 1), Check.packed(0, 0, 1),
            Check.packed(1, 0, 1), Check.packed(0, 1), -1L, 0L, Long.MIN_VALUE, Long.MAX_VALUE,
        };
        for (long order : wrong) {
            Check.refused("coil none or twice", Check.INDEX, () -> x.tell(order));
        }
        Check.refused("there is still no order", Check.TURN, () -> x.order(0));
        WidthCampaigns y = Check.ofWidths(5, 9, 7);
        y.rules(0, 1000, 0, 0);
        Check.refused("index ahead of meaning", Check.INDEX, () -> y.tell(Check.packed(0, 1, 1)));
    }

    private static void refusedOrdersLeaveTheOld() {
        WidthCampaigns x = Check.ofWidths(5, 9, 7);
        x.run(1000);
        Check.refused("told twice", Check.INDEX, () -> x.tell(Check.packed(2, 1, 1)));
        Check.due("the order stays", Check.orderOf(x, 3), 12);
        Check.refused("not good", Check.MEANING, () -> x.tell(Check.packed(1, 0, 2)));
        Check.due("the order stays still", Check.orderOf(x, 3), 12);
        Check.due("its penalty too", x.told(0), 0);
        Check.due("no step helps", x.improve(5), 0);
        Check.due("the order stays behind improve", Check.orderOf(x, 3), 12);
    }

    private static void notGood() {
        WidthCampaigns x = Check.ofHardnesses(0, 1, 2);
        x.table(0, 0, 1, 0);
        Check.refused("a jump not allowed", Check.MEANING, () -> x.tell(Check.packed(1, 0, 2)));
        x.tell(Check.packed(2, 1, 0));
        Check.due("allowed jumps", Check.orderOf(x, 3), 210);
        x.urgent(0, 1);
        Check.refused("behind its last place", Check.MEANING, () -> x.tell(Check.packed(2, 1, 0)));
        x.urgent(0, 2);
        x.tell(Check.packed(2, 1, 0));
        Check.due("at its last place", Check.orderOf(x, 3), 210);
        WidthCampaigns y = Check.ofWidths(5, 9, 7);
        y.rules(3, 1000, 0, 0);
        Check.refused("falls within the rise", Check.MEANING, () -> y.tell(Check.packed(0, 1, 2)));
        y.rules(1, 1000, 0, 0);
        Check.refused("rises behind the rise", Check.MEANING, () -> y.tell(Check.packed(2, 1, 0)));
        y.tell(Check.packed(1, 2, 0));
        Check.due("falls from the first on", Check.orderOf(y, 3), 120);
    }
}

/** Promise 7: rules, and what the rise and the wear do to an order. */
final class Promise07RulesTest {
    public static void main(String[] args) {
        rise();
        wear();
        costs();
        refusals();
        Check.finish("Promise07RulesTest");
    }

    private static void rise() {
        int[] rises = {0, 1, 2, 3, 4, 9};
        long[] first = {3210, 3210, 321, 132, 123, 123};
        WidthCampaigns x = Check.ofWidths(1, 2, 3, 4);
        for (int i = 0; i < rises.length; i++) {
            x.rules(rises[i], 1000, 0, 0);
            x.run(1000);
            Check.due("first order of rise " + rises[i], Check.orderOf(x, 4), first[i]);
        }
        WidthCampaigns y = Check.ofWidths(7, 7, 7);
        for (int each : rises) {
            y.rules(each, 1000, 0, 0);
            y.run(1000);
            Check.due("equal widths neither rise nor fall", Check.orderOf(y, 3), 12);
        }
    }

    private static void wear() {
        WidthCampaigns x = Check.ofKilometres(50, 20, 30, 1, 49);
        x.tell(Check.packed(0, 1, 2, 3));
        Check.due("50 are not above 50", Check.changesOf(x, 4), 10);
        x.rules(0, 49, 10, 0);
        x.tell(Check.packed(0, 1, 2, 3));
        Check.due("50 are above 49, counted anew with the coil", Check.changesOf(x, 4), 101);
        x.rules(0, 1, 10, 0);
        x.tell(Check.packed(0, 1, 2, 3));
        Check.due("coils that alone have too many", Check.changesOf(x, 4), 111);
    }

    private static void costs() {
        WidthCampaigns x = Check.ofKilometres(50, 40, 40, 40);
        x.old(1, 2);
        x.rules(0, 50, 10000, 10000);
        x.tell(Check.packed(0, 1, 2));
        Check.due("dearest changes and moves", x.told(0), 30000);
        x.rules(0, 50, 0, 1);
        x.tell(Check.packed(0, 1, 2));
        Check.due("changes at no cost", x.told(0), 1);
        Check.due("changes at no cost are counted", x.told(1), 2);
    }

    private static void refusals() {
        WidthCampaigns x = Check.ofWidths(1, 2);
        x.run(100);
        int[][] wrong = {
            {-1, 1, 0, 0}, {10, 1, 0, 0}, {0, 0, 0, 0}, {0, 1001, 0, 0}, {0, 1, -1, 0}, {0, 1, 10001, 0},
            {0, 1, 0, -1}, {0, 1, 0, 10001}, {Integer.MIN_VALUE, 1, 0, 0}, {0, Integer.MAX_VALUE, 0, 0},
        };
        for (int[] w : wrong) {
            Check.refused("rules out of range", Check.RANGE, () -> x.rules(w[0], w[1], w[2], w[3]));
        }
        Check.stillThere("refused rules", x, true);
        x.rules(9, 1000, 10000, 10000);
        Check.stillThere("rules", x, false);
        x.run(100);
        x.rules(0, 1, 0, 0);
        Check.stillThere("the least rules", x, false);
    }
}

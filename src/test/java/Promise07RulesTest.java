/** Promise 7: rules, and the sentences of "Terms" on the rise, the wear and the costs. */
final class Promise07RulesTest {
    /** Each number alone too small or too large; the others alter what a search on busy() finds. */
    private static final int[][] WRONG = {
        {-1, 50, 1, 500}, {10, 50, 1, 500}, {Integer.MIN_VALUE, 50, 1, 500}, {Integer.MAX_VALUE, 50, 1, 500},
        {2, 0, 1, 500}, {2, 1001, 1, 500}, {2, -1, 1, 500}, {2, Integer.MIN_VALUE, 1, 500},
        {2, Integer.MAX_VALUE, 1, 500},
        {2, 50, -1, 500}, {2, 50, 10001, 500}, {2, 50, Integer.MIN_VALUE, 500}, {2, 50, Integer.MAX_VALUE, 500},
        {2, 50, 1, -1}, {2, 50, 1, 10001}, {2, 50, 1, Integer.MIN_VALUE}, {2, 50, 1, Integer.MAX_VALUE},
    };

    public static void main(String[] args) {
        leastAndGreatest();
        tooSmallOrTooLarge();
        everyRiseOfFour();
        riseOfNineCoils();
        equalWidthsNeitherRiseNorFall();
        widthsNextToTheTurn();
        riseBehindTheOrder();
        wearIsNotPassed();
        leastWear();
        countedAnewWithTheCoil();
        costs();
        latestTellingCounts();
        orderIsGone();
        Check.finish("Promise07RulesTest");
    }

    private static void leastAndGreatest() {
        int[][] right = {
            {0, 5, 5, 5}, {9, 5, 5, 5}, {5, 1, 5, 5}, {5, 1000, 5, 5}, {5, 5, 0, 5}, {5, 5, 10000, 5},
            {5, 5, 5, 0}, {5, 5, 5, 10000}, {0, 1, 0, 0}, {9, 1000, 10000, 10000},
        };
        for (int[] r : right) {
            WidthCampaigns x = Check.alike(1);
            x.rules(r[0], r[1], r[2], r[3]);
            Check.due("rules at the edge are taken", x.run(1), 1);
        }
    }

    private static void tooSmallOrTooLarge() {
        WidthCampaigns x = Check.busy();
        for (int[] w : WRONG) {
            Check.refusedAndKept("rules out of range", Check.RANGE, x, () -> x.rules(w[0], w[1], w[2], w[3]));
            Check.runsAsBusy("refused rules", x);
        }
    }

    private static void everyRiseOfFour() {
        int[] rises = {0, 1, 2, 3, 4, 5, 9};
        long[] first = {3210, 3210, 321, 132, 123, 123, 123};
        WidthCampaigns x = Check.ofWidths(1, 2, 3, 4);
        for (int i = 0; i < rises.length; i++) {
            x.rules(rises[i], 1000, 0, 0);
            x.run(1000);
            Check.due("first order of rise " + rises[i], Check.orderOf(x, 4), first[i]);
        }
    }

    private static void riseOfNineCoils() {
        WidthCampaigns x = Check.ofWidths(1, 2, 3, 4, 5, 6, 7, 8, 9);
        long rising = Check.packed(0, 1, 2, 3, 4, 5, 6, 7, 8);
        long lastFalls = Check.packed(0, 1, 2, 3, 4, 5, 6, 8, 7);
        x.rules(9, 1000, 0, 0);
        x.tell(rising);
        Check.due("rise 9: all nine rise", Check.orderOf(x, 9), 12345678);
        Check.refused("rise 9: the ninth does not fall", Check.MEANING, () -> x.tell(lastFalls));
        x.rules(8, 1000, 0, 0);
        Check.refused("rise 8: the ninth does not rise", Check.MEANING, () -> x.tell(rising));
        x.tell(lastFalls);
        Check.due("rise 8: the ninth falls", Check.orderOf(x, 9), 12345687);
    }

    private static void equalWidthsNeitherRiseNorFall() {
        WidthCampaigns x = Check.ofWidths(7, 7, 7);
        for (int rise = 0; rise <= 9; rise++) {
            x.rules(rise, 1000, 0, 0);
            x.tell(Check.packed(2, 0, 1));
            Check.due("equal widths, rise " + rise, Check.orderOf(x, 3), 201);
        }
    }

    /** Rise 3: the widths at places 0, 1, 2 do not fall, those at 2, 3, 4 do not rise. */
    private static void widthsNextToTheTurn() {
        int[][] good = {{5, 6, 7, 6, 5}, {5, 5, 5, 5, 5}, {5, 6, 6, 6, 6}, {1, 1, 9, 9, 1}};
        int[][] bad = {{6, 5, 7, 6, 5}, {5, 7, 6, 6, 5}, {5, 6, 7, 8, 5}, {5, 6, 7, 5, 6}};
        for (int[] widths : good) {
            WidthCampaigns x = Check.ofWidths(widths);
            x.rules(3, 1000, 0, 0);
            x.tell(Check.packed(0, 1, 2, 3, 4));
            Check.due("good widths", Check.orderOf(x, 5), 1234);
        }
        for (int[] widths : bad) {
            WidthCampaigns x = Check.ofWidths(widths);
            x.rules(3, 1000, 0, 0);
            Check.refused("widths that are not good", Check.MEANING, () -> x.tell(Check.packed(0, 1, 2, 3, 4)));
        }
    }

    private static void riseBehindTheOrder() {
        WidthCampaigns x = Check.ofWidths(5, 6);
        for (int rise = 2; rise <= 9; rise++) {
            x.rules(rise, 1000, 0, 0);
            x.run(10);
            Check.due("two coils rise with rise " + rise, Check.orderOf(x, 2), 1);
        }
        WidthCampaigns y = Check.ofWidths(5);
        y.rules(9, 1000, 0, 0);
        Check.due("one coil, rise 9", y.run(10), 1);
        y.rules(0, 1000, 0, 0);
        Check.due("one coil, rise 0", y.run(10), 1);
    }

    private static void wearIsNotPassed() {
        WidthCampaigns x = Check.ofKilometres(50, 20, 30, 1, 49);
        x.tell(Check.packed(0, 1, 2, 3));
        Check.due("50 are not above 50, 51 are", Check.changesOf(x, 4), 10);
        WidthCampaigns y = Check.ofKilometres(900, 100, 100, 100, 100, 100, 100, 100, 100, 100);
        y.run(100);
        Check.due("900 are not above 900", y.told(1), 0);
        y.rules(0, 899, 10, 0);
        y.run(100);
        Check.due("900 are above 899", y.told(1), 1);
        y.rules(0, 1000, 10, 0);
        y.run(100);
        Check.due("no order has more than the greatest wear", y.told(1), 0);
    }

    private static void leastWear() {
        WidthCampaigns x = Check.ofKilometres(1, 1, 1, 100);
        x.tell(Check.packed(0, 1, 2));
        Check.due("2 are above 1, and 100 alone too", Check.changesOf(x, 3), 11);
        x.tell(Check.packed(2, 1, 0));
        Check.due("none ahead of the first, though it alone has too many", Check.changesOf(x, 3), 11);
    }

    private static void countedAnewWithTheCoil() {
        WidthCampaigns x = Check.ofKilometres(49, 20, 30, 1, 49);
        x.tell(Check.packed(0, 1, 2, 3));
        Check.due("30 begin anew, 31 are not above 49", Check.changesOf(x, 4), 101);
        WidthCampaigns y = Check.ofKilometres(49, 20, 30, 20, 1);
        y.tell(Check.packed(0, 1, 2, 3));
        Check.due("the coil behind the change counts: 30 and 20", Check.changesOf(y, 4), 110);
    }

    private static void costs() {
        WidthCampaigns x = Check.ofKilometres(50, 40, 40, 40);
        x.old(1, 2);
        x.rules(0, 50, 10000, 10000);
        x.tell(Check.packed(0, 1, 2));
        Check.due("dearest changes and moves", x.told(0), 30000);
        x.rules(0, 50, 0, 1);
        x.tell(Check.packed(0, 1, 2));
        Check.due("changes at no cost", x.told(0), 1);
        Check.due("changes at no cost are counted", x.told(1), 2);
        x.rules(0, 50, 1, 0);
        x.tell(Check.packed(0, 1, 2));
        Check.due("moves at no cost", x.told(0), 2);
        Check.due("moves at no cost are counted", x.told(2), 1);
    }

    private static void latestTellingCounts() {
        WidthCampaigns x = Check.busy();
        x.rules(9, 1, 10000, 10000);
        x.rules(0, 1000, 0, 0);
        x.rules(3, 100, 70, 9);
        Check.runsAsBusy("rules told again as they were", x);
    }

    private static void orderIsGone() {
        WidthCampaigns x = Check.busy();
        x.rules(3, 100, 70, 9);
        Check.allGone("the same rules behind a search", x);
        x.tell(Check.packed(4, 1, 2, 3, 0));
        x.rules(3, 100, 70, 9);
        Check.allGone("the same rules behind a told order", x);
    }
}

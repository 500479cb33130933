/** Promise 4: group, and the sentences of "Terms" on groups and their changes of rolls. */
final class Promise04GroupTest {
    /** From, to and kilometres, each alone too small or too large, or to below from. */
    private static final int[][] WRONG = {
        {0, 5, 5}, {-1, 5, 5}, {Integer.MIN_VALUE, 5, 5}, {2001, 2001, 5}, {2001, 2000, 5}, {0, 0, 5},
        {Integer.MAX_VALUE, Integer.MAX_VALUE, 5}, {1, 2001, 5}, {1, Integer.MAX_VALUE, 5}, {1, 0, 5},
        {5, 4, 5}, {2000, 1999, 5}, {1, Integer.MIN_VALUE, 5},
        {1, 5, 0}, {1, 5, -1}, {1, 5, 1001}, {1, 5, Integer.MIN_VALUE}, {1, 5, Integer.MAX_VALUE},
    };

    public static void main(String[] args) {
        howMany();
        leastAndGreatest();
        tooSmallOrTooLarge();
        noRoom();
        rangeAheadOfMeaning();
        groupHasItsEdges();
        asManyAsItMayHave();
        eachGroupForItself();
        lastGroupCounts();
        countedAnewBehindAnyChange();
        oneCoilAloneAbove();
        noneAheadOfTheFirst();
        orderIsGone();
        Check.finish("Promise04GroupTest");
    }

    /** Coils of widths 9, 8, 7, 6 with ten kilometres each, in this order. */
    private static WidthCampaigns falling() {
        WidthCampaigns x = Check.ofWidths(9, 8, 7, 6);
        x.rules(0, 1000, 10, 0);
        return x;
    }

    private static long changesWhenTold(WidthCampaigns x) {
        x.tell(Check.packed(0, 1, 2, 3));
        return Check.changesOf(x, 4);
    }

    private static void howMany() {
        WidthCampaigns x = new WidthCampaigns();
        for (int number = 1; number <= 4; number++) {
            Check.due("groups", x.group(1, 1, 1), number);
        }
    }

    private static void leastAndGreatest() {
        int[][] right = {{1, 1, 1}, {1, 2000, 1000}, {2000, 2000, 1}, {1, 2, 1000}, {7, 7, 7}};
        for (int[] r : right) {
            Check.due("a group at the edge", new WidthCampaigns().group(r[0], r[1], r[2]), 1);
        }
    }

    private static void tooSmallOrTooLarge() {
        WidthCampaigns x = Check.busy();
        for (int[] w : WRONG) {
            Check.refusedAndKept("a group out of range", Check.RANGE, x, () -> x.group(w[0], w[1], w[2]));
        }
        Check.runsAsBusy("refused groups", x);
        Check.due("a refused group is not counted", x.group(1, 1, 1), 3);
    }

    private static void noRoom() {
        WidthCampaigns x = falling();
        for (int number = 1; number <= 4; number++) {
            x.group(1, 2000, 1000);
        }
        x.run(100);
        Check.refusedAndKept("a fifth group", Check.MEANING, x, () -> x.group(1, 2000, 1));
        x.run(100);
        Check.due("the fifth group is not there", x.told(1), 0);
    }

    private static void rangeAheadOfMeaning() {
        WidthCampaigns x = falling();
        for (int number = 1; number <= 4; number++) {
            x.group(1, 2000, 1000);
        }
        x.run(100);
        for (int[] w : WRONG) {
            Check.refusedAndKept("a fifth group out of range", Check.RANGE, x, () -> x.group(w[0], w[1], w[2]));
        }
    }

    /** Two coils of each width in 6 .. 9; a group of 7 .. 8 parts the coils of these widths alone. */
    private static void groupHasItsEdges() {
        WidthCampaigns x = Check.ofWidths(9, 9, 8, 8, 7, 7, 6, 6);
        x.rules(0, 1000, 10, 0);
        x.group(7, 8, 19);
        x.tell(Check.packed(0, 1, 2, 3, 4, 5, 6, 7));
        Check.due("changes within 7 .. 8 alone", Check.changesOf(x, 8), 11100);
        WidthCampaigns y = Check.ofWidths(2000, 2000, 1, 1);
        y.rules(0, 1000, 10, 0);
        y.group(2000, 2000, 19);
        Check.due("the widest coils", changesWhenTold(y), 100);
        y.group(1, 1, 19);
        Check.due("the narrowest coils", changesWhenTold(y), 101);
    }

    private static void asManyAsItMayHave() {
        WidthCampaigns x = falling();
        x.group(7, 8, 20);
        Check.due("20 are not above 20", changesWhenTold(x), 0);
        x.group(7, 8, 19);
        Check.due("20 are above 19", changesWhenTold(x), 10);
        Check.due("the change is counted", x.told(1), 1);
        Check.due("the change costs", x.told(0), 10);
        WidthCampaigns y = Check.ofKilometres(1000, 1, 1);
        y.group(5, 5, 1);
        y.tell(Check.packed(0, 1));
        Check.due("2 are above the least kilometres", Check.changesOf(y, 2), 1);
        WidthCampaigns z = Check.ofKilometres(1000, 100, 100, 100, 100, 100, 100, 100, 100, 100);
        z.group(1, 2000, 900);
        z.run(100);
        Check.due("900 are not above 900", z.told(1), 0);
        z.group(1, 2000, 899);
        z.run(100);
        Check.due("900 are above 899", z.told(1), 1);
    }

    private static void eachGroupForItself() {
        WidthCampaigns x = falling();
        x.group(8, 9, 20);
        x.group(6, 7, 20);
        Check.due("20 in each of two groups", changesWhenTold(x), 0);
        x.group(7, 8, 19);
        Check.due("a group over both", changesWhenTold(x), 10);
        x.group(8, 9, 19);
        Check.due("the same widths again, with fewer kilometres", changesWhenTold(x), 110);
    }

    private static void lastGroupCounts() {
        WidthCampaigns x = falling();
        x.group(1, 5, 1);
        x.group(1, 5, 1);
        x.group(1, 5, 1);
        Check.due("groups without coils", changesWhenTold(x), 0);
        x.group(7, 7, 10);
        x.tell(Check.packed(0, 1, 2, 3));
        Check.due("a group of one coil, as many as it may have", x.told(1), 0);
        WidthCampaigns y = falling();
        y.group(1, 5, 1);
        y.group(1, 5, 1);
        y.group(1, 5, 1);
        y.group(6, 7, 19);
        Check.due("the fourth group", changesWhenTold(y), 1);
    }

    private static void countedAnewBehindAnyChange() {
        WidthCampaigns x = falling();
        x.group(6, 8, 20);
        x.rules(0, 20, 10, 0);
        Check.due("a change by wear counts the group anew", changesWhenTold(x), 10);
        WidthCampaigns y = falling();
        y.group(8, 9, 10);
        y.rules(0, 30, 10, 0);
        Check.due("a change by a group counts the wear anew, with its coil", changesWhenTold(y), 100);
        WidthCampaigns z = falling();
        z.group(8, 9, 19);
        z.group(6, 8, 29);
        Check.due("a change by one group counts the other anew, with its coil", changesWhenTold(z), 101);
    }

    /** Group's kilometres 5, a coil of 10 inside it: above, with whatever coil comes next. */
    private static void oneCoilAloneAbove() {
        WidthCampaigns x = falling();
        x.group(8, 8, 5);
        Check.due("it is good", x.run(1000), 4);
        Check.due("behind a change, and alone", Check.changesOf(x, 4), 110);
        WidthCampaigns y = falling();
        y.group(1, 2000, 9);
        Check.due("each coil alone", changesWhenTold(y), 111);
    }

    private static void noneAheadOfTheFirst() {
        WidthCampaigns x = falling();
        x.group(9, 9, 1);
        x.tell(Check.packed(0, 1, 2, 3));
        Check.due("the first coil alone has too many", x.change(0), false);
        x.group(6, 9, 1);
        Check.due("all coils alone have too many", changesWhenTold(x), 111);
    }

    private static void orderIsGone() {
        WidthCampaigns x = Check.busy();
        x.group(2000, 2000, 1000);
        Check.allGone("a group behind a search", x);
        x.tell(Check.packed(4, 1, 2, 3, 0));
        x.group(2000, 2000, 1000);
        Check.allGone("a group behind a told order", x);
    }
}

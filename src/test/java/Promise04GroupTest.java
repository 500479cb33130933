/** Promise 4: group, and what groups do to an order. */
final class Promise04GroupTest {
    public static void main(String[] args) {
        counts();
        edges();
        kilometresOfGroups();
        oneCoilAloneAbove();
        orderIsGone();
        Check.finish("Promise04GroupTest");
    }

    private static void counts() {
        WidthCampaigns x = new WidthCampaigns();
        for (int number = 1; number <= 4; number++) {
            Check.due("groups", x.group(1, 1, 1), number);
        }
        Check.refused("a fifth group", Check.MEANING, () -> x.group(1, 1, 1));
        Check.refused("range ahead of meaning", Check.RANGE, () -> x.group(2, 1, 1));
    }

    private static void edges() {
        WidthCampaigns x = new WidthCampaigns();
        int[][] wrong = {
            {0, 5, 5}, {-1, 5, 5}, {5, 4, 5}, {1, 2001, 5}, {2001, 2001, 5}, {1, 1, 0}, {1, 1, 1001},
            {Integer.MIN_VALUE, Integer.MAX_VALUE, 5}, {1, 1, Integer.MIN_VALUE}, {1, Integer.MIN_VALUE, 5},
        };
        for (int[] w : wrong) {
            Check.refused("a group out of range", Check.RANGE, () -> x.group(w[0], w[1], w[2]));
        }
        Check.due("the widest group", x.group(1, 2000, 1000), 1);
        Check.due("the least group", x.group(2000, 2000, 1), 2);
    }

    private static void kilometresOfGroups() {
        WidthCampaigns x = Check.ofWidths(9, 8, 7, 6);
        x.rules(0, 1000, 10, 0);
        x.group(7, 8, 20);
        x.run(1000);
        Check.due("as many as it may have", x.told(1), 0);
        x.group(7, 8, 19);
        x.run(1000);
        Check.due("one above what it may have", Check.changesOf(x, 4), 10);
        x.group(6, 9, 20);
        x.run(1000);
        Check.due("a change counts all groups anew", Check.changesOf(x, 4), 10);
        x.group(8, 9, 19);
        x.run(1000);
        Check.due("each group counts for itself", Check.changesOf(x, 4), 110);
        Check.due("two changes", x.told(0), 20);
    }

    /** Group's kilometres 5, a coil of 10 inside it: above, with whatever coil comes next. */
    private static void oneCoilAloneAbove() {
        WidthCampaigns x = Check.ofWidths(9, 8, 7, 6);
        x.rules(0, 1000, 10, 0);
        x.group(8, 8, 5);
        Check.due("it is good", x.run(1000), 4);
        Check.due("behind a change, and alone", Check.changesOf(x, 4), 110);
        x.group(9, 9, 5);
        x.run(1000);
        Check.due("none ahead of the first coil", Check.changesOf(x, 4), 110);
    }

    private static void orderIsGone() {
        WidthCampaigns x = Check.ofWidths(1, 2);
        for (int number = 1; number <= 4; number++) {
            x.run(100);
            Check.refused("a wrong group", Check.RANGE, () -> x.group(0, 0, 0));
            Check.stillThere("refused group", x, true);
            x.group(1, 2, 5);
            Check.stillThere("group", x, false);
        }
        x.run(100);
        Check.refused("a fifth group", Check.MEANING, () -> x.group(1, 1, 1));
        Check.stillThere("a fifth group", x, true);
    }
}

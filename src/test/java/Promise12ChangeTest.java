/** Promise 12: change, and the sentence of "Terms" on changes of rolls. */
final class Promise12ChangeTest {
    private static final int[] NEVER_PLACES = {-1, 9, 10, Integer.MIN_VALUE, Integer.MAX_VALUE};

    public static void main(String[] args) {
        aheadOfAPlace();
        noneAheadOfTheFirst();
        byWearOrByGroup();
        orderOfNoCoils();
        firstPlaceBeyond();
        turnAheadOfIndex();
        asManyAsAreTold();
        Check.finish("Promise12ChangeTest");
    }

    private static void aheadOfAPlace() {
        WidthCampaigns x = Check.ofKilometres(100, 100, 1, 50, 50, 50);
        x.tell(Check.packed(0, 1, 2, 3, 4));
        boolean[] due = {false, true, false, true, false};
        for (int place = 0; place < 5; place++) {
            Check.due("change ahead of place " + place, x.change(place), due[place]);
        }
        x.tell(Check.packed(1, 2, 0, 3, 4));
        Check.due("changes of another order", Check.changesOf(x, 5), 110);
    }

    private static void noneAheadOfTheFirst() {
        WidthCampaigns x = Check.ofKilometres(1, 100, 100);
        x.group(1, 2000, 1);
        x.run(100);
        Check.due("ahead of the first coil", x.change(0), false);
        Check.due("ahead of the second", x.change(1), true);
    }

    private static void byWearOrByGroup() {
        WidthCampaigns x = Check.ofKilometres(20, 10, 10, 10);
        x.tell(Check.packed(0, 1, 2));
        Check.due("by wear", Check.changesOf(x, 3), 1);
        x.rules(0, 30, 10, 0);
        x.group(5, 5, 10);
        x.tell(Check.packed(0, 1, 2));
        Check.due("by a group", Check.changesOf(x, 3), 11);
        x.rules(0, 10, 10, 0);
        x.tell(Check.packed(0, 1, 2));
        Check.due("by both at once is one change", x.told(0), 20);
        Check.due("each", Check.changesOf(x, 3), 11);
    }

    private static void orderOfNoCoils() {
        WidthCampaigns x = new WidthCampaigns();
        x.run(0);
        Check.refused("no place 0", Check.INDEX, () -> x.change(0));
        for (int place : NEVER_PLACES) {
            Check.refused("no such place", Check.INDEX, () -> x.change(place));
        }
    }

    private static void firstPlaceBeyond() {
        for (int coils = 1; coils <= 9; coils++) {
            int its = coils;
            WidthCampaigns x = Check.alike(coils);
            x.rules(0, 1, 0, 0);
            x.run(100);
            Check.due("last place of " + coils, x.change(coils - 1), coils > 1);
            Check.refusedAndKept("first place beyond", Check.INDEX, x, () -> x.change(its));
            for (int place : NEVER_PLACES) {
                Check.refused("no such place", Check.INDEX, () -> x.change(place));
            }
        }
    }

    private static void turnAheadOfIndex() {
        WidthCampaigns none = new WidthCampaigns();
        WidthCampaigns gone = Check.busy();
        gone.rules(0, 100, 0, 0);
        for (int place : NEVER_PLACES) {
            Check.refused("no order yet, no place", Check.TURN, () -> none.change(place));
            Check.refused("order gone, no place", Check.TURN, () -> gone.change(place));
        }
        Check.refused("order gone, a place of it", Check.TURN, () -> gone.change(4));
        Check.refused("order gone, first place beyond", Check.TURN, () -> gone.change(5));
    }

    private static void asManyAsAreTold() {
        for (int wear = 1; wear <= 9; wear++) {
            WidthCampaigns x = Check.alike(9);
            x.rules(0, wear, 1, 0);
            x.tell(Check.packed(0, 1, 2, 3, 4, 5, 6, 7, 8));
            int count = 0;
            for (int place = 0; place < 9; place++) {
                Check.due("wear " + wear + ", place " + place, x.change(place), place > 0 && place % wear == 0);
                count += x.change(place) ? 1 : 0;
            }
            Check.due("changes of wear " + wear, x.told(1), count);
        }
    }
}

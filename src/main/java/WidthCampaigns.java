/**
 * Campaigns between roll changes: an order of coils with the least penalty for
 * jumps, roll changes and moved coils. The promises are numbered in DOC.md.
 */
public final class WidthCampaigns {
    private static final int MOST_COILS = 9;
    private static final int MOST_ROWS = 8;
    private static final int MOST_GROUPS = 4;
    private static final int LAST_PLACE = 8;
    private static final int MOST_WIDTH = 2000;
    private static final int MOST_THICKNESS = 1000;
    private static final int MOST_HARDNESS = 9;
    private static final int MOST_COIL_KILOMETRES = 100;
    private static final int MOST_JUMP = 1000;
    private static final int MOST_CENTS = 10000;
    private static final int MOST_KILOMETRES = 1000;
    private static final int MOST_RISE = 9;
    private static final int MOST_NODES = 100000;
    private static final int MOST_STEPS = 100;
    private static final int BITS_OF_A_PLACE = 4;
    private static final int MASK_OF_A_PLACE = 15;
    private static final int NOT_ALLOWED = -1;
    private static final int NO_PLACE = -1;

    private final Plant plant;
    private final Line trial;
    private final Line standing;
    private final Search search;
    private final int[] scratch;
    private boolean ordered;
    private boolean searched;

    /** Promise 1: no coils, tables, groups; no order. */
    public WidthCampaigns() {
        plant = new Plant();
        trial = new Line(plant);
        standing = new Line(plant);
        search = new Search(plant, trial);
        scratch = new int[MOST_COILS];
    }

    /** Promise 2: one more coil; answers its number. */
    public int coil(int width, int thick, int hard, int kilometres)
            throws IllegalArgumentException, UnsupportedOperationException {
        if (isOutside(width, 1, MOST_WIDTH) || isOutside(thick, 1, MOST_THICKNESS)
                || isOutside(hard, 0, MOST_HARDNESS)
                || isOutside(kilometres, 1, MOST_COIL_KILOMETRES)) {
            throw new IllegalArgumentException("no such width, thickness, hardness or kilometres");
        }
        if (plant.count >= MOST_COILS) {
            throw new UnsupportedOperationException("no room for another coil");
        }
        forgetOrder();
        return plant.addCoil(width, thick, hard, kilometres);
    }

    /** Promise 3: one more row of a table; answers how many it has. */
    public int table(int kind, int from, int to, int cost)
            throws IndexOutOfBoundsException, IllegalArgumentException, UnsupportedOperationException {
        if (isOutside(kind, 0, 1)) {
            throw new IndexOutOfBoundsException("no such kind of table");
        }
        if (isOutside(from, 0, MOST_JUMP) || isOutside(to, from, MOST_JUMP)
                || isOutside(cost, 0, MOST_CENTS)) {
            throw new IllegalArgumentException("no such jump or cost");
        }
        JumpTable chosen = kind == 0 ? plant.hardJumps : plant.thickJumps;
        if (chosen.rows >= MOST_ROWS) {
            throw new UnsupportedOperationException("no room for another row");
        }
        forgetOrder();
        chosen.addRow(from, to, cost);
        plant.reckonJumps();
        return chosen.rows;
    }

    /** Promise 4: one more group of widths; answers how many there are. */
    public int group(int from, int to, int kilometres)
            throws IllegalArgumentException, UnsupportedOperationException {
        if (isOutside(from, 1, MOST_WIDTH) || isOutside(to, from, MOST_WIDTH)
                || isOutside(kilometres, 1, MOST_KILOMETRES)) {
            throw new IllegalArgumentException("no such widths or kilometres");
        }
        if (plant.groups.count >= MOST_GROUPS) {
            throw new UnsupportedOperationException("no room for another group");
        }
        forgetOrder();
        plant.groups.addGroup(from, to, kilometres);
        return plant.groups.count;
    }

    /** Promise 5: a coil's last place. */
    public void urgent(int coil, int last) throws IndexOutOfBoundsException, IllegalArgumentException {
        if (isNoCoil(coil)) {
            throw new IndexOutOfBoundsException("no such coil");
        }
        if (isOutside(last, 0, LAST_PLACE)) {
            throw new IllegalArgumentException("no such last place");
        }
        forgetOrder();
        plant.last[coil] = last;
    }

    /** Promise 6: a coil's old place, or -1 for none. */
    public void old(int coil, int place) throws IndexOutOfBoundsException, IllegalArgumentException {
        if (isNoCoil(coil)) {
            throw new IndexOutOfBoundsException("no such coil");
        }
        if (isOutside(place, NO_PLACE, LAST_PLACE)) {
            throw new IllegalArgumentException("no such old place");
        }
        forgetOrder();
        plant.oldPlace[coil] = place;
    }

    /** Promise 7: the rise, the wear, what a change and a moved coil cost. */
    public void rules(int rise, int wear, int change, int moved) throws IllegalArgumentException {
        if (isOutside(rise, 0, MOST_RISE) || isOutside(wear, 1, MOST_KILOMETRES)
                || isOutside(change, 0, MOST_CENTS) || isOutside(moved, 0, MOST_CENTS)) {
            throw new IllegalArgumentException("no such rules");
        }
        forgetOrder();
        plant.rise = rise;
        plant.wear = wear;
        plant.changeCents = change;
        plant.movedCents = moved;
    }

    /** Promise 8: searches; answers how many coils are ordered, or -1. */
    public int run(int nodes) throws IllegalArgumentException {
        if (isOutside(nodes, 0, MOST_NODES)) {
            throw new IllegalArgumentException("no such number of nodes");
        }
        search.searchWith(nodes);
        searched = true;
        ordered = search.found;
        if (!ordered) {
            return -1;
        }
        standing.layAll(search.best);
        return plant.count;
    }

    /** Promise 9: whether the latest search left no coil out for want of nodes. */
    public boolean proved() throws IllegalStateException {
        if (!searched) {
            throw new IllegalStateException("no search since the last change");
        }
        return !search.leftOut;
    }

    /** Promise 10: the coil at a place of the order. */
    public int order(int place) throws IndexOutOfBoundsException, IllegalStateException {
        requireOrder();
        requirePlace(place);
        return standing.coils[place];
    }

    /** Promise 11: the order's 0 penalty, 1 changes, 2 coils that moved. */
    public int told(int what) throws IndexOutOfBoundsException, IllegalStateException {
        if (isOutside(what, 0, 2)) {
            throw new IndexOutOfBoundsException("nothing of this number is told");
        }
        requireOrder();
        if (what == 0) {
            return standing.penaltySoFar();
        }
        return what == 1 ? standing.changesSoFar() : standing.movedSoFar();
    }

    /** Promise 12: whether a change comes ahead of the coil at a place. */
    public boolean change(int place) throws IndexOutOfBoundsException, IllegalStateException {
        requireOrder();
        requirePlace(place);
        return standing.changeAhead[place];
    }

    /** Promise 13: the cost of the jump from a coil to another, or -1. */
    public int jump(int a, int b) throws IndexOutOfBoundsException {
        if (isNoCoil(a) || isNoCoil(b) || a == b) {
            throw new IndexOutOfBoundsException("no two such coils");
        }
        return plant.jumpCost[a][b];
    }

    /** Promise 14: the bound below the jumps of every good order. */
    public int bound() {
        int sum = 0;
        int greatest = 0;
        for (int coil = 0; coil < plant.count; coil++) {
            int least = plant.leastJumpTo(coil);
            sum += least;
            greatest = Math.max(greatest, least);
        }
        return sum - greatest;
    }

    /** Promise 15: an order is told, four bits a place. */
    public void tell(long order) throws IndexOutOfBoundsException, UnsupportedOperationException {
        if (!readIntoScratch(order)) {
            throw new IndexOutOfBoundsException("a coil is none, or told twice");
        }
        if (!trial.layAll(scratch)) {
            throw new UnsupportedOperationException("the order is not good");
        }
        standing.layAll(scratch);
        ordered = true;
    }

    /** Promise 16: changes two places a step while that helps; answers the steps taken. */
    public int improve(int steps) throws IllegalStateException, IllegalArgumentException {
        requireOrder();
        if (isOutside(steps, 0, MOST_STEPS)) {
            throw new IllegalArgumentException("no such number of steps");
        }
        int taken = 0;
        while (taken < steps && takeFirstBetterPair()) {
            taken++;
        }
        return taken;
    }

    private static boolean isOutside(int value, int least, int most) {
        return value < least || value > most;
    }

    private boolean isNoCoil(int coil) {
        return coil < 0 || coil >= plant.count;
    }

    private void forgetOrder() {
        ordered = false;
        searched = false;
    }

    private void requireOrder() {
        if (!ordered) {
            throw new IllegalStateException("there is no order");
        }
    }

    private void requirePlace(int place) {
        if (isNoCoil(place)) {
            throw new IndexOutOfBoundsException("no such place");
        }
    }

    /** Whether the told places name every coil once; bits behind the last place say nothing. */
    private boolean readIntoScratch(long told) {
        int seen = 0;
        for (int place = 0; place < plant.count; place++) {
            int coil = (int) (told >>> (BITS_OF_A_PLACE * place)) & MASK_OF_A_PLACE;
            if (isNoCoil(coil) || (seen >> coil & 1) == 1) {
                return false;
            }
            seen |= 1 << coil;
            scratch[place] = coil;
        }
        return true;
    }

    private boolean takeFirstBetterPair() {
        for (int first = 0; first < plant.count; first++) {
            for (int second = first + 1; second < plant.count; second++) {
                if (takePairIfBetter(first, second)) {
                    return true;
                }
            }
        }
        return false;
    }

    private boolean takePairIfBetter(int first, int second) {
        System.arraycopy(standing.coils, 0, scratch, 0, plant.count);
        scratch[first] = standing.coils[second];
        scratch[second] = standing.coils[first];
        if (!trial.layAll(scratch) || trial.penaltySoFar() >= standing.penaltySoFar()) {
            return false;
        }
        standing.layAll(scratch);
        return true;
    }

    /** The rows of one kind of jump. */
    private static final class JumpTable {
        private final int[] from = new int[MOST_ROWS];
        private final int[] to = new int[MOST_ROWS];
        private final int[] cost = new int[MOST_ROWS];
        private int rows;

        /** The caller has seen that there is room. */
        private void addRow(int least, int most, int cents) {
            from[rows] = least;
            to[rows] = most;
            cost[rows] = cents;
            rows++;
        }

        private int costOf(int size) {
            if (rows == 0) {
                return 0;
            }
            for (int row = 0; row < rows; row++) {
                if (from[row] <= size && size <= to[row]) {
                    return cost[row];
                }
            }
            return NOT_ALLOWED;
        }
    }

    /** Groups of widths with the kilometres that each may have between two changes. */
    private static final class WidthGroups {
        private final int[] from = new int[MOST_GROUPS];
        private final int[] to = new int[MOST_GROUPS];
        private final int[] most = new int[MOST_GROUPS];
        private int count;

        /** The caller has seen that there is room. */
        private void addGroup(int narrowest, int widest, int kilometres) {
            from[count] = narrowest;
            to[count] = widest;
            most[count] = kilometres;
            count++;
        }
    }

    /** All that was told of coils, tables, groups and rules. */
    private static final class Plant {
        private final int[] width = new int[MOST_COILS];
        private final int[] thick = new int[MOST_COILS];
        private final int[] hard = new int[MOST_COILS];
        private final int[] kilometres = new int[MOST_COILS];
        private final int[] last = new int[MOST_COILS];
        private final int[] oldPlace = new int[MOST_COILS];
        private final int[][] jumpCost = new int[MOST_COILS][MOST_COILS];
        private final JumpTable hardJumps = new JumpTable();
        private final JumpTable thickJumps = new JumpTable();
        private final WidthGroups groups = new WidthGroups();
        private int count;
        private int rise = 2;
        private int wear = MOST_KILOMETRES;
        private int changeCents = 100;
        private int movedCents;

        /** The caller has seen that there is room. */
        private int addCoil(int itsWidth, int itsThickness, int itsHardness, int itsKilometres) {
            int number = count;
            width[number] = itsWidth;
            thick[number] = itsThickness;
            hard[number] = itsHardness;
            kilometres[number] = itsKilometres;
            // The last place of all holds nobody back, so it serves for coils that are not urgent.
            last[number] = LAST_PLACE;
            oldPlace[number] = NO_PLACE;
            count++;
            reckonJumps();
            return number;
        }

        /** Reckoned once a telling, because a search asks for the same jumps over and over. */
        private void reckonJumps() {
            for (int a = 0; a < count; a++) {
                for (int b = 0; b < count; b++) {
                    jumpCost[a][b] = reckonJump(a, b);
                }
            }
        }

        private int reckonJump(int a, int b) {
            int byHardness = hardJumps.costOf(Math.abs(hard[a] - hard[b]));
            int byThickness = thickJumps.costOf(Math.abs(thick[a] - thick[b]));
            if (byHardness == NOT_ALLOWED || byThickness == NOT_ALLOWED) {
                return NOT_ALLOWED;
            }
            return byHardness + byThickness;
        }

        /** 0 when no other coil may jump to this one. */
        private int leastJumpTo(int coil) {
            int least = NOT_ALLOWED;
            for (int other = 0; other < count; other++) {
                int cost = jumpCost[other][coil];
                if (other != coil && cost != NOT_ALLOWED && (least == NOT_ALLOWED || cost < least)) {
                    least = cost;
                }
            }
            return least == NOT_ALLOWED ? 0 : least;
        }

        private int kilometresInGroup(int number, int coil) {
            boolean isInside = groups.from[number] <= width[coil] && width[coil] <= groups.to[number];
            return isInside ? kilometres[coil] : 0;
        }
    }

    /**
     * Coils that stand one behind another. The counts have a row for each length
     * (0 .. 9), so that taking the last coil back needs no reckoning.
     */
    private static final class Line {
        private final Plant plant;
        private final int[] coils = new int[MOST_COILS];
        private final boolean[] stands = new boolean[MOST_COILS];
        private final boolean[] changeAhead = new boolean[MOST_COILS];
        private final int[] penalty = new int[MOST_COILS + 1];
        private final int[] changes = new int[MOST_COILS + 1];
        private final int[] moved = new int[MOST_COILS + 1];
        private final int[] rolled = new int[MOST_COILS + 1];
        private final int[][] rolledInGroup = new int[MOST_COILS + 1][MOST_GROUPS];
        private int length;

        private Line(Plant itsPlant) {
            plant = itsPlant;
        }

        private int penaltySoFar() {
            return penalty[length];
        }

        private int changesSoFar() {
            return changes[length];
        }

        private int movedSoFar() {
            return moved[length];
        }

        private void clear() {
            length = 0;
            for (int coil = 0; coil < MOST_COILS; coil++) {
                stands[coil] = false;
            }
        }

        /** Lays a whole order down; answers whether it is good, and stops where it is not. */
        private boolean layAll(int[] row) {
            clear();
            for (int place = 0; place < plant.count; place++) {
                if (!mayPut(row[place])) {
                    return false;
                }
                put(row[place]);
            }
            return true;
        }

        private boolean mayPut(int coil) {
            if (stands[coil] || length > plant.last[coil]) {
                return false;
            }
            return length == 0 || mayFollow(coils[length - 1], coil);
        }

        private boolean mayFollow(int before, int coil) {
            if (plant.jumpCost[before][coil] == NOT_ALLOWED) {
                return false;
            }
            int wider = plant.width[coil] - plant.width[before];
            return length < plant.rise ? wider >= 0 : wider <= 0;
        }

        /** The caller has seen by mayPut that the coil may stand here. */
        private void put(int coil) {
            boolean changed = length > 0 && isWornWith(coil);
            changeAhead[length] = changed;
            countKilometres(coil, changed);
            countCosts(coil, changed);
            coils[length] = coil;
            stands[coil] = true;
            length++;
        }

        private void takeBack() {
            if (length > 0) {
                length--;
                stands[coils[length]] = false;
            }
        }

        /**
         * A group that is above its kilometres by one coil alone is still above them
         * with the next coil, of whatever width: so every group is asked, not only the coil's.
         */
        private boolean isWornWith(int coil) {
            if (rolled[length] + plant.kilometres[coil] > plant.wear) {
                return true;
            }
            for (int group = 0; group < plant.groups.count; group++) {
                int with = rolledInGroup[length][group] + plant.kilometresInGroup(group, coil);
                if (with > plant.groups.most[group]) {
                    return true;
                }
            }
            return false;
        }

        private void countKilometres(int coil, boolean changed) {
            int next = length + 1;
            rolled[next] = (changed ? 0 : rolled[length]) + plant.kilometres[coil];
            for (int group = 0; group < plant.groups.count; group++) {
                int before = changed ? 0 : rolledInGroup[length][group];
                rolledInGroup[next][group] = before + plant.kilometresInGroup(group, coil);
            }
        }

        private void countCosts(int coil, boolean changed) {
            int next = length + 1;
            int oldPlace = plant.oldPlace[coil];
            boolean isMoved = oldPlace != NO_PLACE && oldPlace != length;
            int jumpCents = length > 0 ? plant.jumpCost[coils[length - 1]][coil] : 0;
            changes[next] = changes[length] + (changed ? 1 : 0);
            moved[next] = moved[length] + (isMoved ? 1 : 0);
            penalty[next] = penalty[length] + jumpCents
                    + (changed ? plant.changeCents : 0) + (isMoved ? plant.movedCents : 0);
        }
    }

    /** The search for the best order, place by place, bounded by nodes. */
    private static final class Search {
        private final Plant plant;
        private final Line line;
        private final int[] best = new int[MOST_COILS];
        private int bestPenalty;
        private int nodesLeft;
        private boolean found;
        private boolean leftOut;

        private Search(Plant itsPlant, Line itsLine) {
            plant = itsPlant;
            line = itsLine;
        }

        private void searchWith(int nodes) {
            nodesLeft = nodes;
            bestPenalty = Integer.MAX_VALUE;
            found = false;
            leftOut = false;
            line.clear();
            goOnAt(0);
        }

        /** Once a coil was left out no other can be put, so the loop ends there. */
        private void goOnAt(int place) {
            if (place >= plant.count) {
                keepBest();
                return;
            }
            for (int coil = 0; coil < plant.count && !leftOut; coil++) {
                if (line.mayPut(coil)) {
                    putAndGoOn(coil, place);
                }
            }
        }

        private void putAndGoOn(int coil, int place) {
            if (nodesLeft <= 0) {
                leftOut = true;
                return;
            }
            nodesLeft--;
            line.put(coil);
            if (line.penaltySoFar() < bestPenalty) {
                goOnAt(place + 1);
            }
            line.takeBack();
        }

        private void keepBest() {
            found = true;
            bestPenalty = line.penaltySoFar();
            System.arraycopy(line.coils, 0, best, 0, plant.count);
        }
    }
}

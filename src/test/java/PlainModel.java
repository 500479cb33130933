import java.util.ArrayList;
import java.util.Arrays;
import java.util.Collections;
import java.util.List;

/**
 * The document's terms in their plainest form: whole rows are reckoned anew for
 * every question. It answers what WidthCampaigns must answer for the same telling.
 */
final class PlainModel {
    final List<int[]> coils = new ArrayList<>();
    final List<List<int[]>> tables = List.of(new ArrayList<>(), new ArrayList<>());
    final List<int[]> groups = new ArrayList<>();
    final int[] last = new int[9];
    final int[] old = new int[9];
    int rise = 2;
    int wear = 1000;
    int change = 100;
    int moved = 0;

    List<Integer> order;
    Boolean proved;
    private int nodes;
    private boolean leftOut;
    private List<Integer> best;

    PlainModel() {
        Arrays.fill(last, 8);
        Arrays.fill(old, -1);
    }

    int jump(int a, int b) {
        int sum = 0;
        for (int kind = 0; kind <= 1; kind++) {
            int column = kind == 0 ? 2 : 1;
            int size = Math.abs(coils.get(a)[column] - coils.get(b)[column]);
            int cost = tables.get(kind).isEmpty() ? 0 : -1;
            for (int[] row : tables.get(kind)) {
                if (row[0] <= size && size <= row[1]) {
                    cost = row[2];
                    break;
                }
            }
            if (cost < 0) {
                return -1;
            }
            sum += cost;
        }
        return sum;
    }

    /** Whether the first coils of an order, as far as they stand, break nothing. */
    boolean good(List<Integer> row) {
        for (int p = 0; p < row.size(); p++) {
            if (p > last[row.get(p)]) {
                return false;
            }
            if (p > 0 && jump(row.get(p - 1), row.get(p)) < 0) {
                return false;
            }
            for (int q = 0; q < p; q++) {
                int before = coils.get(row.get(q))[0];
                int here = coils.get(row.get(p))[0];
                if (p < rise && here < before) {
                    return false;
                }
                if (q >= rise - 1 && here > before) {
                    return false;
                }
            }
        }
        return true;
    }

    List<Boolean> changes(List<Integer> row) {
        List<Boolean> ahead = new ArrayList<>();
        int begin = 0;
        for (int p = 0; p < row.size(); p++) {
            boolean change = p > 0 && tooMuch(row.subList(begin, p + 1));
            if (change) {
                begin = p;
            }
            ahead.add(change);
        }
        return ahead;
    }

    private boolean tooMuch(List<Integer> campaign) {
        int all = 0;
        for (int coil : campaign) {
            all += coils.get(coil)[3];
        }
        boolean above = all > wear;
        for (int[] group : groups) {
            int inside = 0;
            for (int coil : campaign) {
                int width = coils.get(coil)[0];
                inside += group[0] <= width && width <= group[1] ? coils.get(coil)[3] : 0;
            }
            above |= inside > group[2];
        }
        return above;
    }

    int changeCount(List<Integer> row) {
        return Collections.frequency(changes(row), true);
    }

    int movedCount(List<Integer> row) {
        int count = 0;
        for (int p = 0; p < row.size(); p++) {
            count += old[row.get(p)] >= 0 && old[row.get(p)] != p ? 1 : 0;
        }
        return count;
    }

    int penalty(List<Integer> row) {
        int sum = changeCount(row) * change + movedCount(row) * moved;
        for (int p = 1; p < row.size(); p++) {
            sum += jump(row.get(p - 1), row.get(p));
        }
        return sum;
    }

    int run(int most) {
        nodes = most;
        leftOut = false;
        best = null;
        deeper(new ArrayList<>());
        order = best;
        proved = !leftOut;
        return best == null ? -1 : best.size();
    }

    private void deeper(List<Integer> row) {
        if (row.size() == coils.size()) {
            best = new ArrayList<>(row);
            return;
        }
        for (int coil = 0; coil < coils.size(); coil++) {
            if (row.contains(coil)) {
                continue;
            }
            List<Integer> next = new ArrayList<>(row);
            next.add(coil);
            if (!good(next)) {
                continue;
            }
            if (nodes == 0) {
                leftOut = true;
                continue;
            }
            nodes--;
            if (best == null || penalty(next) < penalty(best)) {
                deeper(next);
            }
        }
    }

    /** The best of all orders by trying every one of them, without a search's short cuts. */
    List<Integer> bestOfAll() {
        List<List<Integer>> found = new ArrayList<>();
        everyOrder(new ArrayList<>(), found);
        List<Integer> least = null;
        for (List<Integer> row : found) {
            if (good(row) && (least == null || penalty(row) < penalty(least))) {
                least = row;
            }
        }
        return least;
    }

    private void everyOrder(List<Integer> row, List<List<Integer>> found) {
        if (row.size() == coils.size()) {
            found.add(new ArrayList<>(row));
        }
        for (int coil = 0; coil < coils.size(); coil++) {
            if (!row.contains(coil)) {
                row.add(coil);
                everyOrder(row, found);
                row.remove(row.size() - 1);
            }
        }
    }

    int bound() {
        List<Integer> leasts = new ArrayList<>();
        for (int to = 0; to < coils.size(); to++) {
            int least = Integer.MAX_VALUE;
            for (int from = 0; from < coils.size(); from++) {
                if (from != to && jump(from, to) >= 0) {
                    least = Math.min(least, jump(from, to));
                }
            }
            leasts.add(least == Integer.MAX_VALUE ? 0 : least);
        }
        int sum = 0;
        for (int least : leasts) {
            sum += least;
        }
        return leasts.isEmpty() ? 0 : sum - Collections.max(leasts);
    }

    int improve(int steps) {
        int taken = 0;
        while (taken < steps && step()) {
            taken++;
        }
        return taken;
    }

    private boolean step() {
        for (int i = 0; i < order.size(); i++) {
            for (int j = i + 1; j < order.size(); j++) {
                List<Integer> other = new ArrayList<>(order);
                Collections.swap(other, i, j);
                if (good(other) && penalty(other) < penalty(order)) {
                    order = other;
                    return true;
                }
            }
        }
        return false;
    }
}

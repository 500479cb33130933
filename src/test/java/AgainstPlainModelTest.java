import java.util.ArrayList;
import java.util.Collections;
import java.util.List;
import java.util.Random;

/** Promises 2 to 16 together: the same random tellings to the class and to the plain model. */
final class AgainstPlainModelTest {
    private static final Random DICE = new Random(20261115);

    private final WidthCampaigns x = new WidthCampaigns();
    private final PlainModel model = new PlainModel();

    public static void main(String[] args) {
        for (int round = 0; round < 400; round++) {
            new AgainstPlainModelTest().playRound(round);
        }
        Check.finish("AgainstPlainModelTest");
    }

    private static int dice(int least, int most) {
        return least + DICE.nextInt(most - least + 1);
    }

    private void playRound(int round) {
        int coils = dice(0, round % 20 == 0 ? 9 : 6);
        for (int i = 0; i < coils; i++) {
            addCoil();
        }
        for (int i = 0; i < 10; i++) {
            tellSomething();
            compareAll("round " + round);
        }
    }

    private void addCoil() {
        int[] coil = {dice(1, 5), dice(1, 30), dice(0, 4), dice(1, 40)};
        if (model.coils.size() < 9) {
            Check.due("coil", x.coil(coil[0], coil[1], coil[2], coil[3]), model.coils.size());
            model.coils.add(coil);
        }
    }

    private void forget() {
        model.order = null;
        model.proved = null;
    }

    private void tellSomething() {
        int coils = model.coils.size();
        switch (dice(0, 9)) {
            case 0 -> addTableRow();
            case 1 -> addGroup();
            case 2 -> setUrgent(coils);
            case 3 -> setOld(coils);
            case 4 -> setRules();
            case 5 -> tellOrder();
            case 6 -> improve();
            default -> run(coils);
        }
    }

    private void run(int coils) {
        int nodes = dice(0, 2) == 0 ? dice(0, 40) : 3000;
        int got = x.run(nodes);
        int due = model.run(nodes);
        Check.due("run(" + nodes + ")", got, due);
        if (coils <= 5 && model.proved) {
            List<Integer> best = model.bestOfAll();
            Check.due("proved is the best of all", best == null ? due == -1 : best.equals(model.order), true);
        }
    }

    private void addTableRow() {
        int kind = dice(0, 1);
        if (model.tables.get(kind).size() < 8) {
            int from = dice(0, kind == 0 ? 3 : 20);
            int[] row = {from, from + dice(0, 20), dice(0, 30)};
            model.tables.get(kind).add(row);
            Check.due("table", x.table(kind, row[0], row[1], row[2]), model.tables.get(kind).size());
            forget();
        }
    }

    private void addGroup() {
        if (model.groups.size() < 4) {
            int from = dice(1, 5);
            int[] group = {from, from + dice(0, 2), dice(1, 90)};
            model.groups.add(group);
            Check.due("group", x.group(group[0], group[1], group[2]), model.groups.size());
            forget();
        }
    }

    private void setUrgent(int coils) {
        if (coils > 0) {
            int coil = dice(0, coils - 1);
            model.last[coil] = dice(0, 8);
            x.urgent(coil, model.last[coil]);
            forget();
        }
    }

    private void setOld(int coils) {
        for (int coil = 0; coil < coils; coil++) {
            model.old[coil] = Math.min(dice(-1, coils), 8);
            x.old(coil, model.old[coil]);
            forget();
        }
    }

    private void setRules() {
        model.rise = dice(0, 9);
        model.wear = dice(1, 120);
        model.change = dice(0, 40);
        model.moved = dice(0, 20);
        x.rules(model.rise, model.wear, model.change, model.moved);
        forget();
    }

    private void tellOrder() {
        List<Integer> row = new ArrayList<>();
        long told = 0;
        for (int coil = 0; coil < model.coils.size(); coil++) {
            row.add(coil);
        }
        // By widths, so that some of the told orders are good.
        Collections.shuffle(row, DICE);
        row.sort((a, b) -> model.coils.get(b)[0] - model.coils.get(a)[0]);
        if (row.size() > 1 && model.rise >= 2) {
            Collections.swap(row, 0, 1);
        }
        for (int place = 0; place < row.size(); place++) {
            told |= (long) row.get(place) << (4 * place);
        }
        long number = told;
        if (model.good(row)) {
            x.tell(number);
            model.order = row;
        } else {
            Check.refused("tell of an order that is not good", Check.MEANING, () -> x.tell(number));
        }
    }

    private void improve() {
        int steps = dice(0, 3) == 0 ? dice(0, 2) : 100;
        if (model.order == null) {
            Check.refused("improve", Check.TURN, () -> x.improve(steps));
        } else {
            Check.due("improve", x.improve(steps), model.improve(steps));
        }
    }

    private void compareAll(String where) {
        int coils = model.coils.size();
        for (int a = 0; a < coils; a++) {
            for (int b = 0; b < coils; b++) {
                if (a != b) {
                    Check.due(where + " jump", x.jump(a, b), model.jump(a, b));
                }
            }
        }
        Check.due(where + " bound", x.bound(), model.bound());
        if (model.proved == null) {
            Check.refused(where + " proved", Check.TURN, () -> x.proved());
        } else {
            Check.due(where + " proved", x.proved(), model.proved);
        }
        if (model.order == null) {
            Check.refused(where + " told", Check.TURN, () -> x.told(0));
            Check.refused(where + " order", Check.TURN, () -> x.order(0));
        } else {
            compareOrder(where, coils);
        }
    }

    private void compareOrder(String where, int coils) {
        Check.due(where + " penalty", x.told(0), model.penalty(model.order));
        Check.due(where + " changes", x.told(1), model.changeCount(model.order));
        Check.due(where + " moved", x.told(2), model.movedCount(model.order));
        for (int place = 0; place < coils; place++) {
            Check.due(where + " order", x.order(place), model.order.get(place));
            Check.due(where + " change", x.change(place), model.changes(model.order).get(place));
        }
    }
}

/** Long runs of calls on the program and on the model, whose answers must be the same. */
public final class ModelTest {
    private static final int RUNS = 3000;
    private static final int CALLS = 500;

    private final Check check;
    private final Dice dice;
    private final LeastPlaces x = new LeastPlaces();
    private final Model model = new Model();
    private int calls;

    /** Numbers that look thrown, but are the same in every run of the test. */
    private static final class Dice {
        private long state;

        Dice(long seed) {
            state = seed * 2654435761L + 12345;
        }

        int below(int bound) {
            state = state * 6364136223846793005L + 1442695040888963407L;
            return (int) ((state >>> 33) % bound);
        }
    }

    private ModelTest(Check check, int run) {
        this.check = check;
        dice = new Dice(run);
    }

    public static void main(String[] args) {
        Check check = new Check();
        for (int run = 0; run < RUNS; run++) {
            new ModelTest(check, run).go();
        }
        check.end("ModelTest");
    }

    private void go() {
        while (calls < CALLS - 110) {
            int choice = dice.below(10);
            if (choice < 3) {
                readNew();
            } else if (choice < 6) {
                change();
            } else {
                look();
            }
        }
        while (calls < CALLS) {
            look();
        }
    }

    private void same(String call, int got, int want) {
        calls++;
        check.due(call, got, want);
    }

    private void readNew() {
        String text = dice.below(4) == 0 ? spoilt(sheet()) : sheet();
        same("clearText", x.clearText(), model.clearText());
        for (int i = 0; i < text.length() && i < 101; i++) {
            same("append", x.append(text.charAt(i)), model.append(text.charAt(i)));
        }
        same("read of " + text, x.read(), model.read());
    }

    private void change() {
        int a = dice.below(8) - (dice.below(20) == 0 ? 2 : 0);
        int b = dice.below(2003) - 1001;
        int formula = dice.below(7) - (dice.below(20) == 0 ? 1 : 0);
        int node = dice.below(dice.below(2) == 0 ? 4 : 31) - (dice.below(20) == 0 ? 1 : 0);
        int places = 1 + dice.below(9);
        switch (dice.below(8)) {
            case 0 -> same("setPlaces", x.setPlaces(places), model.setPlaces(places));
            case 1, 2 -> same("setCell", x.setCell(a, b), model.setCell(a, b));
            case 3 -> same("undo", x.undo(), model.undo());
            case 4 -> same("read again", x.read(), model.read());
            default -> same("turn", x.turn(formula, node), model.turn(formula, node));
        }
    }

    private void look() {
        int what = dice.below(9) - 1;
        int formula = dice.below(7) - (dice.below(20) == 0 ? 1 : 0);
        int node = dice.below(dice.below(2) == 0 ? 6 : 61);
        int step = dice.below(dice.below(2) == 0 ? 20 : 150);
        int few = dice.below(5);
        int places = 1 + dice.below(9);
        String with = "(" + formula + ", " + node + ", " + step + ", " + what + ")";
        switch (dice.below(11)) {
            case 0 -> same("count" + with, x.count(what), model.count(what));
            case 1 -> same("formula" + with, x.formula(formula, what), model.formula(formula, what));
            case 2, 3 -> same("node" + with, x.node(formula, node, what), model.node(formula, node, what));
            case 4 -> same("cell" + with, x.cell(what), model.cell(what));
            case 5 -> same("plan" + with, x.plan(few), model.plan(few));
            case 6, 7 -> same("step" + with, x.step(step, few), model.step(step, few));
            case 8 -> same("costWith" + with, x.costWith(places), model.costWith(places));
            case 9 -> same("enough", x.enough(), model.enough());
            default -> {
                same("proved" + with, x.proved(formula), model.proved(formula));
                same("ways" + with, x.ways(formula), model.ways(formula));
            }
        }
    }

    // ---- texts

    private String sheet() {
        StringBuilder text = new StringBuilder();
        int definitions = dice.below(6);
        for (int i = 0; i < definitions; i++) {
            text.append((char) ('A' + i)).append('=').append(piece(i, dice.below(3) == 0 ? 4 : 1)).append(';');
        }
        return text.append(piece(definitions, 2 + dice.below(12))).toString();
    }

    /** A formula with some operations, whose parts are shared out by chance. */
    private String piece(int ahead, int operations) {
        if (operations == 0) {
            return leaf(ahead);
        }
        int left = dice.below(operations);
        String first = factor(ahead, left);
        String second = factor(ahead, operations - 1 - left);
        return first + "+-*".charAt(dice.below(3)) + second;
    }

    private String factor(int ahead, int operations) {
        String bare = piece(ahead, operations);
        return switch (dice.below(operations == 0 ? 9 : 3)) {
            case 0 -> "!" + (operations == 0 ? bare : "(" + bare + ")");
            case 1 -> "(" + bare + ")";
            default -> bare;
        };
    }

    private String leaf(int ahead) {
        int choice = dice.below(3);
        if (choice == 0 && ahead > 0) {
            return "" + (char) ('A' + dice.below(ahead));
        }
        return choice == 1 ? "" + dice.below(1000) : "" + (char) ('a' + dice.below(8));
    }

    private String spoilt(String text) {
        StringBuilder spoilt = new StringBuilder(text);
        String signs = "()!+-*;=0123456789abchiABCEF /\u00ff";
        for (int i = 0; i <= dice.below(2); i++) {
            int place = dice.below(spoilt.length() + 1);
            char sign = signs.charAt(dice.below(signs.length()));
            switch (dice.below(4)) {
                case 0 -> spoilt.insert(place, sign);
                case 1 -> spoilt.setLength(place);
                case 2 -> spoilt.insert(place, String.valueOf(sign).repeat(1 + dice.below(10)));
                default -> spoilt.replace(Math.max(0, place - 1), place, "" + sign);
            }
        }
        return spoilt.toString();
    }
}

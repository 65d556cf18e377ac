import java.util.ArrayDeque;
import java.util.ArrayList;
import java.util.HashMap;
import java.util.HashSet;
import java.util.List;
import java.util.Map;
import java.util.Set;

/**
 * The document once more, in its plainest form and made otherwise than the program: trees, texts that
 * are split at their operations, failures found by a machine of two states, all orders tried.
 */
final class Model {
    /** A node of a formula; a bracket is none. */
    private static final class Tree {
        final char sign;
        final int content;
        Tree left;
        Tree right;

        Tree(char sign, int content, Tree left, Tree right) {
            this.sign = sign;
            this.content = content;
            this.left = left;
            this.right = right;
        }

        Tree copy() {
            return new Tree(sign, content, left == null ? null : left.copy(), right == null ? null : right.copy());
        }

        List<Tree> all() {
            List<Tree> list = new ArrayList<>();
            list.add(this);
            if (left != null) {
                list.addAll(left.all());
            }
            if (right != null) {
                list.addAll(right.all());
            }
            return list;
        }
    }

    private record State(List<Tree> formulas, int[] cells, int places) {
        State copy() {
            List<Tree> trees = new ArrayList<>();
            formulas.forEach(tree -> trees.add(tree.copy()));
            return new State(trees, cells.clone(), places);
        }
    }

    private String text = "";
    private State now = new State(new ArrayList<>(List.of(new Tree('0', 0, null, null))), new int[8], 3);
    private final ArrayDeque<State> history = new ArrayDeque<>();

    private void record() {
        history.addLast(now.copy());
        if (history.size() > 5) {
            history.removeFirst();
        }
    }

    // ---- sheets

    int append(int character) {
        if (character < 1 || character > 255) {
            return Check.INVALID;
        }
        if (text.length() == 100) {
            return Check.FULL;
        }
        text += (char) character;
        return text.length();
    }

    int clearText() {
        int length = text.length();
        text = "";
        return length;
    }

    int read() {
        int failure = failureOf(text);
        if (failure >= 0) {
            return -1000 - failure;
        }
        record();
        List<Tree> trees = new ArrayList<>();
        for (String piece : text.split(";")) {
            trees.add(grow(piece.substring(piece.indexOf('=') + 1)));
        }
        now = new State(trees, now.cells, now.places);
        return trees.size();
    }

    /** The place of the first sign that can't stand where it does, or -1. */
    private static int failureOf(String text) {
        int definitions = 0;
        int nodes = 0;
        boolean operand = true;
        boolean start = true;
        boolean result = true;
        String open = "";
        for (int i = 0; i < text.length(); i++) {
            char sign = text.charAt(i);
            if (start && definitions < 5 && sign == "ABCDE".charAt(definitions)) {
                i++;
                if (i == text.length() || text.charAt(i) != '=') {
                    return i;
                }
                start = false;
                result = false;
                continue;
            }
            start = false;
            boolean node = "()".indexOf(sign) < 0;
            if (operand && (sign == '(' || sign == '!')) {
                if (open.length() == 8 || node && nodes == 30) {
                    return i;
                }
                open += sign;
            } else if (operand && isLeaf(sign, definitions)) {
                if (nodes == 30) {
                    return i;
                }
                String number = text.substring(i).replaceAll("(?s)^(0|[1-9][0-9]{0,2})?.*", "$1");
                i += Math.max(1, number.length()) - 1;
                operand = false;
                open = open.replaceAll("!+$", "");
            } else if (!operand && "+-*".indexOf(sign) >= 0) {
                if (nodes == 30) {
                    return i;
                }
                operand = true;
            } else if (!operand && sign == ')' && open.endsWith("(")) {
                open = open.replaceAll("!*\\($", "");
            } else if (!operand && sign == ';' && open.isEmpty() && !result) {
                definitions++;
                operand = true;
                start = true;
                result = true;
                nodes = -1;
            } else {
                return i;
            }
            nodes += node ? 1 : 0;
        }
        return operand || !open.isEmpty() || !result ? text.length() : -1;
    }

    private static boolean isLeaf(char sign, int definitions) {
        return "0123456789abcdefgh".indexOf(sign) >= 0 || "ABCDE".substring(0, definitions).indexOf(sign) >= 0;
    }

    private static Tree grow(String piece) {
        int cut = Math.max(lastOutside(piece, '+'), lastOutside(piece, '-'));
        cut = cut < 0 ? lastOutside(piece, '*') : cut;
        if (cut >= 0) {
            return new Tree(piece.charAt(cut), -1, grow(piece.substring(0, cut)), grow(piece.substring(cut + 1)));
        }
        char sign = piece.charAt(0);
        if (sign == '(') {
            return grow(piece.substring(1, piece.length() - 1));
        }
        if (sign == '!') {
            return new Tree('!', -1, grow(piece.substring(1)), null);
        }
        if (sign >= 'a') {
            return new Tree('a', sign - 'a', null, null);
        }
        return sign >= 'A' ? new Tree('A', sign - 'A', null, null) : new Tree('0', Integer.parseInt(piece), null, null);
    }

    private static int lastOutside(String piece, char wanted) {
        int open = 0;
        for (int i = piece.length() - 1; i >= 0; i--) {
            char sign = piece.charAt(i);
            open += sign == ')' ? 1 : sign == '(' ? -1 : 0;
            if (open == 0 && sign == wanted) {
                return i;
            }
        }
        return -1;
    }

    int turn(int formula, int node) {
        if (!isFormula(formula) || node < 0 || node >= now.formulas.get(formula).all().size()) {
            return Check.INVALID;
        }
        char sign = now.formulas.get(formula).all().get(node).sign;
        if (sign != '+' && sign != '*') {
            return Check.STATE;
        }
        record();
        Tree turned = now.formulas.get(formula).all().get(node);
        Tree part = turned.left;
        turned.left = turned.right;
        turned.right = part;
        return need(expanded(formula));
    }

    int setCell(int cell, int value) {
        if (cell < 0 || cell > 7 || value < -999 || value > 999) {
            return Check.INVALID;
        }
        record();
        int before = now.cells[cell];
        now.cells[cell] = value;
        return before;
    }

    int setPlaces(int places) {
        if (places < 2 || places > 8) {
            return Check.INVALID;
        }
        record();
        int before = now.places;
        now = new State(now.formulas, now.cells, places);
        return before;
    }

    int undo() {
        if (history.isEmpty()) {
            return Check.STATE;
        }
        now = history.removeLast();
        return history.size();
    }

    // ---- looking

    private boolean isFormula(int formula) {
        return formula >= 0 && formula < now.formulas.size();
    }

    private Tree expanded(int formula) {
        return expand(now.formulas.get(formula));
    }

    private Tree expand(Tree tree) {
        if (tree == null) {
            return null;
        }
        if (tree.sign == 'A' && isCheap(tree.content)) {
            return expanded(tree.content);
        }
        return new Tree(tree.sign, tree.content, expand(tree.left), expand(tree.right));
    }

    private boolean isCheap(int formula) {
        if (formula == now.formulas.size() - 1) {
            return false;
        }
        List<Tree> all = expanded(formula).all();
        return all.size() <= 3 && all.stream().noneMatch(tree -> tree.sign == '*' || tree.sign == 'A');
    }

    private static int need(Tree tree) {
        if (tree.left == null) {
            return 1;
        }
        if (tree.right == null) {
            return need(tree.left);
        }
        int left = need(tree.left);
        int right = need(tree.right);
        return left == right ? left + 1 : Math.max(left, right);
    }

    private static int depth(Tree tree) {
        return tree == null ? 0 : 1 + Math.max(depth(tree.left), depth(tree.right));
    }

    private long value(Tree tree) {
        long value = switch (tree.sign) {
            case '0' -> tree.content;
            case 'a' -> now.cells[tree.content];
            case 'A' -> value(now.formulas.get(tree.content));
            case '!' -> -value(tree.left);
            case '+' -> value(tree.left) + value(tree.right);
            case '-' -> value(tree.left) - value(tree.right);
            default -> value(tree.left) * value(tree.right);
        };
        return value > 99999 ? 99999 : value < -99999 ? -99999 : value;
    }

    int count(int what) {
        int cheap = 0;
        int nodes = 0;
        int need = 0;
        for (int i = 0; i < now.formulas.size(); i++) {
            cheap += isCheap(i) ? 1 : 0;
            nodes += now.formulas.get(i).all().size();
            need = isCheap(i) ? need : Math.max(need, need(expanded(i)));
        }
        int[] all = {now.formulas.size(), cheap, nodes, now.places, need, history.size(), text.length()};
        return what < 0 || what > 6 ? Check.INVALID : all[what];
    }

    int formula(int formula, int what) {
        if (!isFormula(formula) || what < 0 || what > 6) {
            return Check.INVALID;
        }
        Tree tree = expanded(formula);
        int uses = 0;
        for (int i = 0; i < now.formulas.size(); i++) {
            if (i != formula && !isCheap(i)) {
                uses += (int) expanded(i).all().stream()
                        .filter(node -> node.sign == 'A' && node.content == formula).count();
            }
        }
        int[] all = {now.formulas.get(formula).all().size(), tree.all().size(), need(tree),
            isCheap(formula) ? 1 : 0, (int) value(tree), depth(tree), uses};
        return all[what];
    }

    int node(int formula, int node, int what) {
        if (!isFormula(formula) || what < 0 || what > 6) {
            return Check.INVALID;
        }
        List<Tree> all = expanded(formula).all();
        if (node < 0 || node >= all.size()) {
            return Check.INVALID;
        }
        Tree tree = all.get(node);
        int[] answers = {"0aA!+-*".indexOf(tree.sign), tree.left == null ? tree.content : Check.NONE,
            tree.left == null ? Check.NONE : all.indexOf(tree.left),
            tree.right == null ? Check.NONE : all.indexOf(tree.right),
            need(tree), tree.all().size(), (int) value(tree)};
        return answers[what];
    }

    int cell(int cell) {
        return cell < 0 || cell > 7 ? Check.INVALID : now.cells[cell];
    }

    // ---- plans

    private record Step(int kind, int formula, Tree tree, int cost) {
    }

    private List<Step> makePlan(int places, List<Tree> forms) {
        List<Step> steps = new ArrayList<>();
        for (int i = 0; i < now.formulas.size(); i++) {
            Tree tree = expanded(i);
            forms.add(tree);
            if (!isCheap(i)) {
                work(steps, i, tree, places);
                if (i < now.formulas.size() - 1) {
                    steps.add(new Step(4, i, tree, 4));
                }
            }
        }
        return steps;
    }

    private static void work(List<Step> steps, int formula, Tree tree, int places) {
        if (tree.left == null) {
            steps.add(new Step(tree.sign == 'A' ? 5 : 0, formula, tree, tree.sign == 'A' ? 4 : 1));
            return;
        }
        if (tree.right == null) {
            work(steps, formula, tree.left, places);
            steps.add(new Step(1, formula, tree, 1));
            return;
        }
        boolean turned = need(tree.right) > need(tree.left);
        Tree first = turned ? tree.right : tree.left;
        Tree second = turned ? tree.left : tree.right;
        work(steps, formula, first, places);
        boolean spilled = need(second) >= places;
        if (spilled) {
            steps.add(new Step(2, formula, first, 4));
        }
        work(steps, formula, second, spilled ? places : places - 1);
        if (spilled) {
            steps.add(new Step(3, formula, first, 4));
        }
        steps.add(new Step(1, formula, tree, tree.sign == '*' ? 3 : 1));
    }

    private static int costOf(List<Step> steps) {
        return steps.stream().mapToInt(Step::cost).sum();
    }

    private static int ofKind(List<Step> steps, int kind) {
        return (int) steps.stream().filter(step -> step.kind == kind).count();
    }

    int plan(int what) {
        List<Step> steps = makePlan(now.places, new ArrayList<>());
        return switch (what) {
            case 0 -> steps.size();
            case 1 -> costOf(steps);
            case 2 -> ofKind(steps, 2);
            case 3 -> ofKind(steps, 5);
            case 4 -> costOf(steps.stream().filter(step -> step.kind == 1).toList());
            default -> Check.INVALID;
        };
    }

    int step(int step, int what) {
        if (step < 0 || what < 0 || what > 3) {
            return Check.INVALID;
        }
        List<Tree> forms = new ArrayList<>();
        List<Step> steps = makePlan(now.places, forms);
        if (step >= steps.size()) {
            return Check.NONE;
        }
        Step told = steps.get(step);
        return switch (what) {
            case 0 -> told.kind;
            case 1 -> told.formula;
            case 2 -> forms.get(told.formula).all().indexOf(told.tree);
            default -> heldBehind(steps.subList(0, step + 1));
        };
    }

    /** The values that are in places, each by its node; those that an operation takes are gone with it. */
    private static int heldBehind(List<Step> steps) {
        Set<Tree> held = new HashSet<>();
        for (Step step : steps) {
            if (step.kind == 1) {
                held.remove(step.tree.left);
                held.remove(step.tree.right);
            }
            if (step.kind == 2 || step.kind == 4) {
                held.remove(step.tree);
            } else {
                held.add(step.tree);
            }
        }
        return held.size();
    }

    int costWith(int places) {
        return places < 2 || places > 8 ? Check.INVALID : costOf(makePlan(places, new ArrayList<>()));
    }

    int enough() {
        int places = 2;
        while (ofKind(makePlan(places, new ArrayList<>()), 2) > 0) {
            places++;
        }
        return places;
    }

    int proved(int formula) {
        return tryAll(formula, 0);
    }

    int ways(int formula) {
        return tryAll(formula, 1);
    }

    private int tryAll(int formula, int what) {
        if (!isFormula(formula)) {
            return Check.INVALID;
        }
        Tree tree = expanded(formula);
        Map<Tree, Integer> pairs = new HashMap<>();
        for (Tree node : tree.all()) {
            if (node.right != null) {
                pairs.put(node, pairs.size());
            }
        }
        if (pairs.size() > 10) {
            return Check.NONE;
        }
        int fewest = Integer.MAX_VALUE;
        int ways = 0;
        for (int order = 0; order < 1 << pairs.size(); order++) {
            int places = placesFor(tree, pairs, order);
            ways = places < fewest ? 1 : places == fewest ? ways + 1 : ways;
            fewest = Math.min(fewest, places);
        }
        return what == 0 ? fewest : ways;
    }

    private static int placesFor(Tree tree, Map<Tree, Integer> pairs, int order) {
        if (tree.left == null) {
            return 1;
        }
        int left = placesFor(tree.left, pairs, order);
        if (tree.right == null) {
            return left;
        }
        int right = placesFor(tree.right, pairs, order);
        boolean leftFirst = (order >> pairs.get(tree) & 1) == 0;
        return leftFirst ? Math.max(left, right + 1) : Math.max(right, left + 1);
    }
}

/** Promises 9 to 12: the calls that look at a sheet. */
public final class LookingTest {
    private static final Check check = new Check();

    public static void main(String[] args) {
        count();
        formula();
        cheap();
        uses();
        values();
        node();
        nodeNeeds();
        expandedToTheMost();
        cell();
        check.end("LookingTest");
    }

    private static void count() {
        LeastPlaces x = Check.sheet("A=a+b;B=A*A;C=!B;!(B+c)-A*C");
        x.setPlaces(6);
        int[] want = {4, 1, 3 + 3 + 2 + 8, 6, 3, 2, 27};
        for (int what = 0; what < want.length; what++) {
            check.due("promise 9: count " + what, x.count(what), want[what]);
        }
        for (int what : Check.outside(0, 6)) {
            check.due("promise 9: count " + what, x.count(what), Check.INVALID);
        }
        LeastPlaces y = Check.sheet("A=a+b;7");
        check.due("promise 9: the need of a cheap definition does not count", y.count(4), 1);
        check.due("promise 9: nor is it left out of the nodes", y.count(2), 4);
        LeastPlaces z = Check.sheet("A=(a+b)*(c+d);7");
        check.due("promise 9: that of another does", z.count(4), 3);
    }

    private static void formula() {
        LeastPlaces x = Check.sheet("A=a+b;B=A*A;!(B+c)-A*B");
        x.setCell(0, 3);
        x.setCell(1, 4);
        dueFormula(x, 0, 3, 3, 2, 1, 7, 2, 0);
        dueFormula(x, 1, 3, 7, 3, 0, 49, 3, 2);
        dueFormula(x, 2, 8, 10, 3, 0, -49 - 343, 4, 0);
        for (int what : Check.outside(0, 6)) {
            check.due("promise 10: what " + what, x.formula(0, what), Check.INVALID);
        }
        for (int formula : Check.outside(0, 2)) {
            check.due("promise 10: formula " + formula, x.formula(formula, 0), Check.INVALID);
        }
        Check.readText(x, "a");
        check.due("promise 10: formulas that were there before", x.formula(1, 0), Check.INVALID);
    }

    private static void dueFormula(LeastPlaces x, int formula, int... want) {
        for (int what = 0; what < want.length; what++) {
            check.due("promise 10: formula " + formula + ", " + what, x.formula(formula, what), want[what]);
        }
    }

    private static void cheap() {
        dueCheap("7", true);
        dueCheap("a", true);
        dueCheap("!!a", true);
        dueCheap("a-b", true);
        dueCheap("((a+1))", true);
        dueCheap("!!!a", false);
        dueCheap("!a+b", false);
        dueCheap("a*b", false);
        dueCheap("a+b+c", false);
        LeastPlaces x = Check.sheet("A=a+b;B=A;C=B;D=!B;C-D");
        check.due("a cheap definition by another one", x.formula(1, 3), 1);
        check.due("a cheap definition by another one", x.formula(2, 3), 1);
        check.due("4 nodes by another one", x.formula(3, 3), 0);
        check.due("4 nodes by another one", x.formula(3, 1), 4);
        check.due("the result", x.formula(4, 1), 5);
        LeastPlaces y = Check.sheet("A=a*b;B=A;C=!B;D=7;B+D");
        check.due("a capital is not cheap", y.formula(1, 3), 0);
        check.due("a capital is not cheap", y.formula(2, 3), 0);
        check.due("the result is no definition", y.formula(4, 3), 0);
        check.due("cheap definitions", y.count(1), 1);
        check.dueAll("capitals that stay", Check.nodes(y, 4, 0), 4, 2, 0);
    }

    private static void dueCheap(String text, boolean cheap) {
        LeastPlaces x = Check.sheet("A=" + text + ";A");
        check.due("cheap: " + text, x.formula(0, 3), cheap ? 1 : 0);
        check.due("cheap: " + text, x.formula(1, 1), cheap ? x.formula(0, 0) : 1);
    }

    private static void uses() {
        LeastPlaces x = Check.sheet("A=a*b;B=A+A*!A;C=B-A;D=1;E=A;D+D+E");
        int[] want = {5, 1, 0, 0, 1, 0};
        for (int formula = 0; formula < want.length; formula++) {
            check.due("promise 10: uses of " + formula, x.formula(formula, 6), want[formula]);
        }
    }

    private static void values() {
        dueValue("7", 7);
        dueValue("1-2-3", -4);
        dueValue("1-(2-3)", 2);
        dueValue("2+3*4", 14);
        dueValue("(2+3)*4", 20);
        dueValue("!5", -5);
        dueValue("!!5", 5);
        dueValue("!5+7", 2);
        dueValue("!(5+7)", -12);
        dueValue("!0", 0);
        dueValue("999*100+99", 99999);
        dueValue("999*100+100", 99999);
        dueValue("999*999", 99999);
        dueValue("999*999-1", 99998);
        dueValue("!999*999", -99999);
        dueValue("!(999*999)-1", -99999);
        dueValue("!(999*999)+1", -99998);
        dueValue("999*999*(999*999)", 99999);
        dueValue("999*999*!(999*999)", -99999);
        dueValue("999*999-999*999", 0);
        LeastPlaces x = Check.sheet("A=999*999;B=A+A;B-1");
        check.due("the value of a capital", x.formula(2, 4), 99998);
        LeastPlaces y = Check.sheet("a*b-h");
        y.setCell(0, -20);
        y.setCell(1, 30);
        y.setCell(7, -7);
        check.due("the value with cells", y.formula(0, 4), -593);
    }

    private static void dueValue(String text, int value) {
        check.due("value of " + text, Check.sheet(text).formula(0, 4), value);
    }

    private static void node() {
        LeastPlaces x = Check.sheet("A=b-7;B=!(A*h)+512;B*A");
        x.setCell(1, 3);
        x.setCell(7, 10);
        check.dueAll("promise 11: kinds", Check.nodes(x, 1, 0), 4, 3, 6, 5, 1, 0, 1, 0);
        int none = Check.NONE;
        check.dueAll("promise 11: contents", Check.nodes(x, 1, 1), none, none, none, none, 1, 7, 7, 512);
        check.dueAll("promise 11: left parts", Check.nodes(x, 1, 2), 1, 2, 3, 4, none, none, none, none);
        check.dueAll("promise 11: right parts", Check.nodes(x, 1, 3), 7, none, 6, 5, none, none, none, none);
        check.dueAll("promise 11: needs", Check.nodes(x, 1, 4), 2, 2, 2, 2, 1, 1, 1, 1);
        check.dueAll("promise 11: sizes", Check.nodes(x, 1, 5), 8, 6, 5, 3, 1, 1, 1, 1);
        check.dueAll("promise 11: values", Check.nodes(x, 1, 6), 552, 40, -40, -4, 3, 7, 10, 512);
        check.dueAll("promise 11: capitals", Check.nodes(x, 2, 0), 6, 2, 5, 1, 0);
        check.dueAll("promise 11: definitions", Check.nodes(x, 2, 1), none, 1, none, 1, 7);
        check.dueAll("promise 11: values of capitals", Check.nodes(x, 2, 6), -2208, 552, -4, 3, 7);
        for (int what : Check.outside(0, 6)) {
            check.due("promise 11: what " + what, x.node(1, 0, what), Check.INVALID);
        }
        for (int node : Check.outside(0, 7)) {
            check.due("promise 11: node " + node, x.node(1, node, 0), Check.INVALID);
        }
        for (int formula : Check.outside(0, 2)) {
            check.due("promise 11: formula " + formula, x.node(formula, 0, 0), Check.INVALID);
        }
    }

    private static void nodeNeeds() {
        LeastPlaces x = Check.sheet("a+b+c+d");
        check.due("a row of like operations", x.formula(0, 2), 2);
        LeastPlaces y = Check.sheet("(a+b)*(c+d)-(e+f)*!(g+h)");
        check.due("two and two and two", y.formula(0, 2), 4);
        check.due("its depth", y.formula(0, 5), 5);
        LeastPlaces z = Check.sheet("!!a");
        check.dueAll("no need of more", Check.nodes(z, 0, 4), 1, 1, 1);
        LeastPlaces w = Check.sheet("a*(b*(c*(d*e)))");
        check.due("to the right", w.formula(0, 2), 2);
        check.due("to the right", w.formula(0, 5), 5);
    }

    private static void expandedToTheMost() {
        LeastPlaces x = Check.sheet("A=a+b;!A" + "+A".repeat(14));
        check.due("30 nodes as read", x.formula(1, 0), 30);
        check.due("60 nodes expanded", x.formula(1, 1), 60);
        check.due("depth of them", x.formula(1, 5), 14 + 3);
        check.due("the last node", x.node(1, 59, 1), 1);
        check.due("no node behind it", x.node(1, 60, 0), Check.INVALID);
        LeastPlaces y = Check.sheet("A=!!a;!!!!!!!(A" + "+a".repeat(11) + ")");
        check.due("the deepest form", y.formula(1, 5), 21);
        check.due("the deepest form's nodes", y.formula(1, 1), 32);
        check.due("the deepest form's plan", y.plan(0), 32);
        check.due("its last step", y.step(31, 3), 1);
    }

    private static void cell() {
        LeastPlaces x = new LeastPlaces();
        for (int i = 0; i < 8; i++) {
            x.setCell(i, 10 * i - 35);
        }
        for (int i = 0; i < 8; i++) {
            check.due("promise 12: cell " + i, x.cell(i), 10 * i - 35);
        }
        for (int cell : Check.outside(0, 7)) {
            check.due("promise 12: cell " + cell, x.cell(cell), Check.INVALID);
        }
    }
}

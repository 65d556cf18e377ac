/** Promises 1 to 8: the calls that change a sheet. */
public final class SheetsTest {
    private static final Check check = new Check();

    public static void main(String[] args) {
        newObject();
        append();
        clearText();
        readGrammar();
        readFailures();
        readCapitals();
        readNesting();
        readSize();
        readKeeps();
        turn();
        turnFurther();
        setCell();
        setPlaces();
        undo();
        undoHoldsFive();
        errorsRecordNothing();
        check.end("SheetsTest");
    }

    private static void newObject() {
        LeastPlaces x = new LeastPlaces();
        check.dueAll("promise 1: counts", counts(x), 1, 0, 1, 3, 1, 0, 0);
        for (int i = 0; i < 8; i++) {
            check.due("promise 1: cell " + i, x.cell(i), 0);
        }
        check.due("promise 1: kind", x.node(0, 0, 0), 0);
        check.due("promise 1: number", x.node(0, 0, 1), 0);
        check.due("promise 1: need", x.node(0, 0, 4), 1);
        check.due("promise 1: nodes", x.node(0, 0, 5), 1);
        check.due("promise 1: value", x.formula(0, 4), 0);
        check.due("promise 1: depth", x.formula(0, 5), 1);
        check.due("promise 1: cheap", x.formula(0, 3), 0);
        check.due("promise 1: empty text", x.read(), -1000);
        check.due("promise 1: no history", x.undo(), Check.STATE);
        new LeastPlaces().setCell(0, 5);
        check.due("promise 1: objects have nothing in common", x.cell(0), 0);
    }

    private static int[] counts(LeastPlaces x) {
        int[] all = new int[7];
        for (int i = 0; i < 7; i++) {
            all[i] = x.count(i);
        }
        return all;
    }

    private static void append() {
        LeastPlaces x = new LeastPlaces();
        check.due("promise 2: lowest", x.append(1), 1);
        check.due("promise 2: highest", x.append(255), 2);
        for (int character : Check.outside(1, 255)) {
            check.due("promise 2: append " + character, x.append(character), Check.INVALID);
        }
        check.due("promise 2: length", x.count(6), 2);
        for (int i = 3; i <= 100; i++) {
            check.due("promise 2: append", x.append('a'), i);
        }
        check.due("promise 2: full", x.append('a'), Check.FULL);
        check.due("promise 2: full and out of range", x.append(0), Check.INVALID);
        check.due("promise 2: full and out of range", x.append(256), Check.INVALID);
        check.due("promise 2: length", x.count(6), 100);
        check.due("promise 2: no action", x.count(5), 0);
    }

    private static void clearText() {
        LeastPlaces x = Check.sheet("a+b");
        check.due("promise 3", x.clearText(), 3);
        check.due("promise 3: empty", x.clearText(), 0);
        check.due("promise 3: length", x.count(6), 0);
        check.due("promise 3: the sheet stays", x.formula(0, 0), 3);
        check.due("promise 3: no action", x.count(5), 1);
        Check.type(x, "7");
        check.due("promise 3: nothing is left of the text", x.read(), 1);
        check.due("promise 3: nothing is left of the text", x.formula(0, 4), 7);
    }

    private static void readGrammar() {
        dueKinds("0", 0);
        dueKinds("999", 0);
        dueKinds("h", 1);
        dueKinds("a-b-c", 5, 5, 1, 1, 1);
        dueKinds("a-(b-c)", 5, 1, 5, 1, 1);
        dueKinds("a+b*c", 4, 1, 6, 1, 1);
        dueKinds("a*b+c", 4, 6, 1, 1, 1);
        dueKinds("a*b*c", 6, 6, 1, 1, 1);
        dueKinds("(a+b)*c", 6, 4, 1, 1, 1);
        dueKinds("!a*b", 6, 3, 1, 1);
        dueKinds("!(a*b)", 3, 6, 1, 1);
        dueKinds("a*!b", 6, 1, 3, 1);
        dueKinds("((1))", 0);
        dueKinds("a+b-1*!2", 5, 4, 1, 1, 6, 0, 3, 0);
        LeastPlaces x = Check.sheet("100-(20-3)");
        check.dueAll("promise 4: numbers", Check.nodes(x, 0, 1), Check.NONE, 100, Check.NONE, 20, 3);
    }

    private static void dueKinds(String text, int... kinds) {
        LeastPlaces x = new LeastPlaces();
        check.due("promise 4: " + text, Check.readText(x, text), 1);
        check.dueAll("promise 4: " + text, Check.nodes(x, 0, 0), kinds);
    }

    private static void readFailures() {
        dueFailure("", 0);
        dueFailure("a+", 2);
        dueFailure("a++b", 2);
        dueFailure("+a", 0);
        dueFailure("a b", 1);
        dueFailure("ab", 1);
        dueFailure("i", 0);
        dueFailure("`", 0);
        dueFailure("@", 0);
        dueFailure("a/b", 1);
        dueFailure("1234", 3);
        dueFailure("1234+", 3);
        dueFailure("01", 1);
        dueFailure("00", 1);
        dueFailure("1a", 1);
        dueFailure("(a", 2);
        dueFailure("a)", 1);
        dueFailure("()", 1);
        dueFailure("(a+b", 4);
        dueFailure("(a;b)", 2);
        dueFailure("!", 1);
        dueFailure("a!", 1);
        dueFailure("a(b)", 1);
        dueFailure("a=1", 1);
        dueFailure("\u00ff", 0);
        dueFailure("a\u0001", 1);
    }

    private static void dueFailure(String text, int place) {
        LeastPlaces x = Check.sheet("a+b");
        check.due("promise 4: " + text, Check.readText(x, text), -1000 - place);
        check.due("promise 4: no action by " + text, x.count(5), 1);
        check.due("promise 4: the text stays, " + text, x.count(6), text.length());
        check.due("promise 4: the sheet stays, " + text, x.formula(0, 0), 3);
    }

    private static void readCapitals() {
        dueFailure("A", 1);
        dueFailure("A+1", 1);
        dueFailure("A=", 2);
        dueFailure("A=1", 3);
        dueFailure("A=1;", 4);
        dueFailure("A=1;B", 5);
        dueFailure("A=1;C", 4);
        dueFailure("A=1;A;", 5);
        dueFailure("A=1;A=2;3", 5);
        dueFailure("A=A;1", 2);
        dueFailure("A=B;1", 2);
        dueFailure("B=1;1", 0);
        dueFailure("a+A", 2);
        dueFailure("A=1;a+B", 6);
        dueFailure("A=1);1", 3);
        dueFailure("A=(1;1", 4);
        dueFailure("a;", 1);
        dueFailure("A=1;B=2;C=3;D=4;E=5;F", 20);
        dueFailure("A=1;B=2;C=3;D=4;E=5;F=6;1", 20);
        dueFailure("A=1;B=2;C=3;D=4;E=5;E=6;1", 21);
        LeastPlaces x = new LeastPlaces();
        check.due("promise 4: five definitions",
                Check.readText(x, "A=1;B=2;C=3;D=4;E=5*A;E-D-C-B-A"), 6);
        check.due("promise 4: the value of the last", x.formula(5, 4), -5);
        check.due("promise 4: a definition by another", Check.readText(x, "A=a*b;B=A;B"), 3);
        check.due("promise 4: a capital begins the result", Check.readText(x, "A=1;A"), 2);
    }

    private static void readNesting() {
        LeastPlaces x = new LeastPlaces();
        check.due("promise 4: 8 brackets", Check.readText(x, "((((((((a))))))))"), 1);
        check.due("promise 4: both kinds", Check.readText(x, "!(!(!(!(a))))"), 1);
        check.due("promise 4: 8 again behind 8",
                Check.readText(x, "((((((((a))))))))+((((((((a))))))))"), 1);
        check.due("promise 4: 8 again behind 8", Check.readText(x, "!!!!!!!!a*!!!!!!!!a"), 1);
        check.due("promise 4: each formula by itself",
                Check.readText(x, "A=!!!!!!!!a;((((((((A))))))))"), 2);
        dueFailure("(((((((((a)))))))))", 8);
        dueFailure("!(!(!(!(!a))))", 8);
        dueFailure("((((((((a+!b))))))))", 10);
        dueFailure("(((((((!(a))))))))", 8);
        dueFailure("A=!!!!!!!!!a;1", 10);
        check.due("promise 4: the 8th closes first", Check.readText(x, "(((((((!a+(b))))))))"), 1);
    }

    private static void readSize() {
        LeastPlaces x = new LeastPlaces();
        check.due("promise 4: 30 nodes", Check.readText(x, "!" + sum(15)), 1);
        check.due("promise 4: 30 nodes", x.formula(0, 0), 30);
        dueFailure(sum(16), 30);
        dueFailure("!" + sum(15) + "+a", 30);
        dueFailure("!" + sum(14) + "+!a", 30);
        dueFailure(sum(15) + "+", 30);
        dueFailure(sum(15) + "+(a)", 31);
        dueFailure(sum(15) + "+!a", 30);
        dueFailure(sum(15) + "*123", 30);
        dueFailure("A=" + sum(16) + ";1", 32);
        dueFailure("A=1;" + sum(15) + "+A", 34);
        dueFailure("!!" + sum(14) + "*a", 30);
        check.due("promise 4: each formula by itself",
                Check.readText(x, "A=" + sum(15) + ";B=" + sum(15) + ";" + sum(15)), 3);
        check.due("promise 4: 87 nodes in 93 signs", x.count(2), 87);
        String longest = "A=" + sum(15) + ";B=" + sum(15) + ";(((" + sum(14) + ")))+12";
        check.due("promise 4: as long as it can be", Check.readText(x, longest), 3);
        check.due("promise 4: as long as it can be", x.count(6), 100);
    }

    private static String sum(int leaves) {
        return "a" + "+a".repeat(leaves - 1);
    }

    private static void readKeeps() {
        LeastPlaces x = Check.sheet("A=1;A");
        x.setCell(2, 9);
        x.setPlaces(5);
        check.due("promise 4: another sheet", Check.readText(x, "c"), 1);
        check.due("promise 4: cells stay", x.formula(0, 4), 9);
        check.due("promise 4: places stay", x.count(3), 5);
        check.due("promise 4: an action", x.count(5), 4);
        check.due("promise 4: the text stays", x.count(6), 1);
        check.due("promise 4: once more", x.read(), 1);
        check.due("promise 4: an action though nothing changes", x.count(5), 5);
    }

    private static void turn() {
        LeastPlaces x = Check.sheet("A=a-b;(a+2)*A");
        check.due("promise 5", x.turn(1, 0), 3);
        check.dueAll("promise 5: kinds", Check.nodes(x, 1, 0), 6, 5, 1, 1, 4, 1, 0);
        check.dueAll("promise 5: contents", Check.nodes(x, 1, 1),
                Check.NONE, Check.NONE, 0, 1, Check.NONE, 0, 2);
        check.due("promise 5: as read, with new numbers", x.turn(1, 2), 3);
        check.dueAll("promise 5: contents", Check.nodes(x, 1, 1),
                Check.NONE, Check.NONE, 0, 1, Check.NONE, 2, 0);
        check.due("promise 5: an action", x.count(5), 3);
        check.due("promise 5: no minus", x.turn(0, 0), Check.STATE);
        check.due("promise 5: no letter", x.turn(0, 1), Check.STATE);
        check.due("promise 5: no capital", x.turn(1, 1), Check.STATE);
        check.due("promise 5: no number", x.turn(1, 3), Check.STATE);
        for (int node : Check.outside(0, 4)) {
            check.due("promise 5: node " + node, x.turn(1, node), Check.INVALID);
        }
        for (int formula : Check.outside(0, 1)) {
            check.due("promise 5: formula " + formula, x.turn(formula, 0), Check.INVALID);
        }
        check.due("promise 5: errors are no actions", x.count(5), 3);
    }

    private static void turnFurther() {
        LeastPlaces x = Check.sheet("!(a*(b+c*d))-e");
        check.due("promise 5: no !", x.turn(0, 1), Check.STATE);
        check.due("promise 5: below a !", x.turn(0, 2), 2);
        check.dueAll("promise 5", Check.nodes(x, 0, 0), 5, 3, 6, 4, 1, 6, 1, 1, 1, 1);
        check.dueAll("promise 5", leaves(x, 0), 1, 2, 3, 0, 4);
        check.due("promise 5: further down", x.turn(0, 3), 2);
        check.dueAll("promise 5", leaves(x, 0), 2, 3, 1, 0, 4);
        check.due("promise 5: back", x.turn(0, 3), 2);
        check.dueAll("promise 5", leaves(x, 0), 1, 2, 3, 0, 4);
        LeastPlaces y = Check.sheet("A=a+b;A*A");
        check.due("promise 5: a cheap definition", y.turn(0, 0), 2);
        check.dueAll("promise 5: wherever it is used", leaves(y, 1), 1, 0, 1, 0);
        check.due("promise 5: nodes of the formula as it was read", y.turn(1, 3), Check.INVALID);
        check.due("promise 5: parts that are alike", y.turn(1, 0), 3);
    }

    private static int[] leaves(LeastPlaces x, int formula) {
        int[] contents = Check.nodes(x, formula, 1);
        return java.util.Arrays.stream(contents).filter(content -> content != Check.NONE).toArray();
    }

    private static void setCell() {
        LeastPlaces x = new LeastPlaces();
        check.due("promise 6", x.setCell(0, 999), 0);
        check.due("promise 6", x.setCell(0, -999), 999);
        check.due("promise 6", x.setCell(0, 3), -999);
        check.due("promise 6: the last", x.setCell(7, 4), 0);
        check.due("promise 6: cells by themselves", x.cell(0), 3);
        check.due("promise 6: an action", x.count(5), 4);
        check.due("promise 6: an action though nothing changes", x.setCell(7, 4), 4);
        check.due("promise 6: an action though nothing changes", x.count(5), 5);
        for (int cell : Check.outside(0, 7)) {
            check.due("promise 6: cell " + cell, x.setCell(cell, 1), Check.INVALID);
        }
        for (int value : Check.outside(-999, 999)) {
            check.due("promise 6: value " + value, x.setCell(1, value), Check.INVALID);
        }
        check.due("promise 6: errors change nothing", x.cell(1), 0);
        Check.readText(x, "a+h");
        check.due("promise 6: values", x.formula(0, 4), 7);
        x.setCell(7, -4);
        check.due("promise 6: values change", x.formula(0, 4), -1);
    }

    private static void setPlaces() {
        LeastPlaces x = new LeastPlaces();
        check.due("promise 7", x.setPlaces(2), 3);
        check.due("promise 7", x.setPlaces(8), 2);
        check.due("promise 7: an action", x.count(5), 2);
        check.due("promise 7: an action though nothing changes", x.setPlaces(8), 8);
        check.due("promise 7: an action though nothing changes", x.count(5), 3);
        for (int places : Check.outside(2, 8)) {
            check.due("promise 7: places " + places, x.setPlaces(places), Check.INVALID);
        }
        check.due("promise 7: errors change nothing", x.count(3), 8);
        check.due("promise 7: errors are no actions", x.count(5), 3);
    }

    private static void undo() {
        LeastPlaces x = new LeastPlaces();
        Check.readText(x, "A=a;A+b");
        x.setCell(1, 5);
        x.setPlaces(7);
        x.turn(1, 0);
        check.due("promise 8: of a turn", x.undo(), 3);
        check.dueAll("promise 8: of a turn", leaves(x, 1), 0, 1);
        check.due("promise 8: of places", x.undo(), 2);
        check.due("promise 8: of places", x.count(3), 3);
        check.due("promise 8: of a cell", x.undo(), 1);
        check.due("promise 8: of a cell", x.cell(1), 0);
        check.due("promise 8: of a cell, values", x.formula(1, 4), 0);
        x.clearText();
        check.due("promise 8: of a read", x.undo(), 0);
        check.due("promise 8: of a read", x.count(0), 1);
        check.due("promise 8: of a read", x.formula(0, 0), 1);
        check.due("promise 8: the text stays", x.count(6), 0);
        check.due("promise 8: empty", x.undo(), Check.STATE);
        check.due("promise 8: undo is no action", x.count(5), 0);
    }

    private static void undoHoldsFive() {
        LeastPlaces x = new LeastPlaces();
        for (int i = 1; i <= 12; i++) {
            x.setCell(i % 8, i);
            check.due("promise 8: states", x.count(5), Math.min(i, 5));
        }
        for (int i = 12; i > 7; i--) {
            check.due("promise 8: cell of " + i, x.cell(i % 8), i);
            check.due("promise 8: left of " + i, x.undo(), i - 8);
            check.due("promise 8: cell before " + i, x.cell(i % 8), i > 8 ? i - 8 : 0);
        }
        check.due("promise 8: the oldest are dropped", x.undo(), Check.STATE);
        check.due("promise 8: the oldest are dropped", x.cell(7), 7);
        x.setCell(0, 100);
        x.setCell(0, 200);
        check.due("promise 8: on from there", x.undo(), 1);
        check.due("promise 8: on from there", x.cell(0), 100);
    }

    private static void errorsRecordNothing() {
        LeastPlaces x = new LeastPlaces();
        x.read();
        x.turn(0, 0);
        x.turn(9, 0);
        x.setCell(8, 0);
        x.setPlaces(1);
        x.append(0);
        x.undo();
        check.due("errors record nothing", x.count(5), 0);
    }
}

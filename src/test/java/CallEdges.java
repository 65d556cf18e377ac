import java.util.function.IntUnaryOperator;

/** The edges that promises 1 to 12 name, argument by argument and answer by answer. */
final class CallEdges {
    private final Check check;

    CallEdges(Check check) {
        this.check = check;
    }

    void all() {
        newObject();
        appendCharacter();
        appendToFullText();
        clearText();
        readFormulas();
        readFailure();
        readKeeps();
        readIsAnAction();
        turnFormula();
        turnNode();
        turnWholeParts();
        turnOtherKinds();
        turnNeed();
        setCellArguments();
        setCellRefused();
        setPlaces();
        undo();
        count();
        countNumbers();
        formulasBefore();
        formula();
        formulaProperties();
        node();
        nodeNone();
        cell();
    }

    private Sentence promise(int number, String words) {
        return new Sentence(check, "Promise " + number, words);
    }

    static LeastPlaces fullText() {
        LeastPlaces x = new LeastPlaces();
        for (int i = 0; i < 100; i++) {
            x.append('a');
        }
        return x;
    }

    /** Due is that a call refuses what is outside of a range, and that nothing changes. */
    private static void dueRange(Sentence s, String name, int low, int high, Asked call) {
        for (int argument : Check.outside(low, high)) {
            s.refuses(name + " " + argument, x -> call.with(x, argument), Check.INVALID);
        }
    }

    private interface Asked {
        int with(LeastPlaces x, int argument);
    }

    // ---- promise 1

    private void newObject() {
        Sentence s = promise(1, "Creates a sheet whose result is the number 0, without definitions, cells of 0, and an empty text.");
        LeastPlaces x = new LeastPlaces();
        int[] counts = {1, 0, 1, 3, 1, 0, 0};
        for (int what = 0; what < 7; what++) {
            s.due("count " + what, x.count(what), counts[what]);
        }
        int[] result = {1, 1, 1, 0, 0, 1, 0};
        int[] node = {0, 0, Check.NONE, Check.NONE, 1, 1, 0};
        for (int what = 0; what < 7; what++) {
            s.due("the result's property " + what, x.formula(0, what), result[what]);
            s.due("the node's property " + what, x.node(0, 0, what), node[what]);
        }
        s.due("no second formula", x.formula(1, 0), Check.INVALID);
        s.due("no second node", x.node(0, 1, 0), Check.INVALID);
        for (int cell = 0; cell < 8; cell++) {
            s.due("cell " + cell, x.cell(cell), 0);
        }
        s.due("the text", x.read(), -1000);
        s.due("the text's length", x.clearText(), 0);
        s.due("the history", x.undo(), Check.STATE);
        s.due("steps", x.plan(0), 1);
        s.due("enough", x.enough(), 2);
        s.due("proved", x.proved(0), 1);
        s.due("ways", x.ways(0), 1);
    }

    // ---- promises 2 and 3

    private void appendCharacter() {
        Sentence s = promise(2, "`character`: character code, 1 to 255");
        LeastPlaces x = new LeastPlaces();
        for (int character = 1; character <= 100; character++) {
            s.due("append " + character, x.append(character), character);
        }
        x.clearText();
        for (int character = 156; character <= 255; character++) {
            s.due("append " + character, x.append(character), character - 155);
        }
        LeastPlaces y = new LeastPlaces();
        s.due("append 1", y.append(1), 1);
        s.due("append 255", y.append(255), 2);
        Sentence t = promise(2, "INVALID_ARGUMENT if character is out of range");
        dueRange(t, "append", 1, 255, LeastPlaces::append);
        t.refuses("append 256 + 'a'", z -> z.append(256 + 'a'), Check.INVALID);
        t.refuses("append 65536 + 'a'", z -> z.append(65536 + 'a'), Check.INVALID);
        t.unchanged(CallEdges::fullText, "append 0 to a full text", z -> z.append(0), Check.INVALID);
        t.unchanged(CallEdges::fullText, "append 256 to a full text", z -> z.append(256), Check.INVALID);
    }

    private void appendToFullText() {
        Sentence s = promise(2, "Returns the new length of the text");
        LeastPlaces x = new LeastPlaces();
        for (int i = 1; i <= 100; i++) {
            s.due("append", x.append('a' + i % 8), i);
            s.due("length", x.count(6), i);
        }
        Sentence t = promise(2, "CAPACITY_EXCEEDED if the text already has 100 characters");
        t.due("character 101", x.append('a'), Check.FULL);
        t.due("length", x.count(6), 100);
        t.unchanged(CallEdges::fullText, "append to a full text", y -> y.append('+'), Check.FULL);
        t.unchanged(() -> typed(100), "append to a full text that can be read", y -> y.append('1'), Check.FULL);
        t.due("append to one of 99", typed(99).append(')'), 100);
        LeastPlaces z = fullText();
        z.clearText();
        t.due("append to a text that was full", z.append('a'), 1);
    }

    /** An object whose text is the first signs of one of 100 signs that can be read. */
    private static LeastPlaces typed(int signs) {
        LeastPlaces x = new LeastPlaces();
        Check.type(x, FormulaEdges.hundred().substring(0, signs));
        return x;
    }

    private void clearText() {
        Sentence s = promise(3, "Returns the previous length of the text");
        LeastPlaces x = new LeastPlaces();
        s.due("of an empty text", x.clearText(), 0);
        x.append(255);
        s.due("of one sign", x.clearText(), 1);
        s.due("once more", x.clearText(), 0);
        s.due("of a full text", fullText().clearText(), 100);
        Sentence t = promise(3, "Makes the text empty.");
        LeastPlaces y = Starts.full();
        t.due("length before", y.clearText(), 10);
        t.due("length", y.count(6), 0);
        t.due("read", y.read(), -1000);
        t.due("the first sign", y.append('8'), 1);
        t.due("read", y.read(), 1);
        t.due("value", y.formula(0, 4), 8);
        LeastPlaces z = Starts.partly();
        z.clearText();
        t.due("the sheet stays", z.count(0), 3);
        t.due("no action", z.count(5), 2);
        t.unchanged(LeastPlaces::new, "clearText of an empty text", LeastPlaces::clearText, 0);
    }

    // ---- promise 4

    private void readFormulas() {
        Sentence s = promise(4, "Returns the number of formulas");
        s.reads("1", 1);
        s.reads("A=1;A", 2);
        s.reads("A=1;B=1;A", 3);
        s.reads("A=1;B=1;C=1;A", 4);
        s.reads("A=1;B=1;C=1;D=1;A", 5);
        s.reads("A=1;B=1;C=1;D=1;E=1;A", 6);
    }

    private void readFailure() {
        Sentence s = promise(4, "-1000 minus the place of the failure if the text fails");
        s.fails("", 0);
        s.fails("+", 0);
        s.fails("1)", 1);
        s.fails("1+", 2);
        s.unchanged(LeastPlaces::new, "read of an empty text", LeastPlaces::read, -1000);
        s.unchanged(CallEdges::fullText, "read of 100 letters", LeastPlaces::read, -1001);
        s.fails(FormulaEdges.hundred().substring(0, 98) + ";", 98);
        s.fails(FormulaEdges.hundred().substring(0, 99) + ";", 99);
        s.fails(FormulaEdges.hundred().substring(0, 99), 99);
        s.fails(FormulaEdges.hundredUnclosed(), 100);
    }

    private void readKeeps() {
        Sentence s = promise(4, "in place of the one that there is; cells and places stay");
        LeastPlaces x = Starts.full();
        s.due("read", x.read(), 2);
        s.due("formulas", x.count(0), 2);
        s.due("no formula of the sheet before", x.formula(2, 0), Check.INVALID);
        s.due("nodes", x.count(2), 3 + 4);
        s.due("places", x.count(3), 2);
        s.due("a cell", x.cell(0), 3);
        s.due("another cell", x.cell(7), -5);
        Sentence t = promise(4, "The text stays in either case.");
        t.due("length behind a reading", x.count(6), 10);
        t.due("read once more", x.read(), 2);
        x.append('+');
        t.due("read of a text that fails", x.read(), -1011);
        t.due("its length", x.count(6), 11);
        x.append('h');
        t.due("read of a text that was failing", x.read(), 2);
        t.due("value", x.formula(1, 4), -1 - 5);
    }

    private void readIsAnAction() {
        Sentence s = promise(4, "If it does not fail, this is an action.");
        LeastPlaces x = Starts.partly();
        s.due("states before", x.count(5), 2);
        x.read();
        s.due("states", x.count(5), 3);
        x.append('+');
        s.due("read of a text that fails", x.read(), -1011);
        s.due("states", x.count(5), 3);
        s.due("undo", x.undo(), 2);
        s.due("formulas", x.count(0), 3);
    }

    // ---- promise 5

    private void turnFormula() {
        Sentence s = promise(5, "`formula`: a formula");
        for (int formula = 0; formula < 6; formula++) {
            LeastPlaces x = Check.sheet("A=a+b;B=a*b;C=a+b;D=a*b;E=a+b;a*b");
            s.due("turn in formula " + formula, x.turn(formula, 0), 2);
            s.due("left part", x.node(formula, 1, 1), 1);
            s.due("right part", x.node(formula, 2, 1), 0);
        }
        LeastPlaces x = Check.sheet("A=a+b;B=a*b;C=a+b;D=a*b;E=a+b;a*b");
        s.due("turn in formula 6", x.turn(6, 0), Check.INVALID);
        Sentence t = promise(5, "INVALID_ARGUMENT if there is no such formula or node");
        for (int formula : Check.outside(0, 2)) {
            t.refuses("turn in formula " + formula, y -> y.turn(formula, 0), Check.INVALID);
        }
        t.unchanged(LeastPlaces::new, "turn in formula 1", y -> y.turn(1, 0), Check.INVALID);
        LeastPlaces z = Check.sheet("A=a+b;A+1");
        Check.readText(z, "a+1");
        t.due("turn in a formula that there was before", z.turn(1, 0), Check.INVALID);
    }

    private void turnNode() {
        Sentence s = promise(5, "`node`: a node of the formula as it was read, numbered as told for expanded forms");
        LeastPlaces x = Check.sheet("A=a+b;(A+c)*(A+d)");
        s.due("the last operation", x.turn(1, 4), 3);
        s.dueAll("letters", Check.nodes(x, 1, 1), Check.NONE, Check.NONE, Check.NONE, 0, 1, 2, Check.NONE, 3,
                Check.NONE, 0, 1);
        s.due("the last node", x.turn(1, 6), Check.STATE);
        s.due("a node of the expanded form alone", x.turn(1, 7), Check.INVALID);
        LeastPlaces y = Check.sheet("A=a+b;" + "!A" + "*A".repeat(14));
        s.due("the last one of 30", y.turn(1, 29), Check.STATE);
        s.due("none behind it", y.turn(1, 30), Check.INVALID);
        s.due("no node of the expanded form", y.turn(1, 59), Check.INVALID);
        s.due("the first one of 30", y.turn(1, 0), 3);
        Sentence t = promise(5, "INVALID_ARGUMENT if there is no such formula or node");
        for (int node : Check.outside(0, 7)) {
            t.refuses("turn of node " + node, z -> z.turn(z.count(0) - 1, node), Check.INVALID);
        }
        t.unchanged(Starts::full, "turn of node 3 of 3", z -> z.turn(1, 3), Check.INVALID);
        t.unchanged(LeastPlaces::new, "turn of node 1 of 1", z -> z.turn(0, 1), Check.INVALID);
        t.unchanged(() -> Check.sheet("A=a+b;A*A"), "turn of node 3 of 3, 7 expanded", z -> z.turn(1, 3), Check.INVALID);
    }

    private void turnWholeParts() {
        Sentence s = promise(5, "Exchanges the parts of a node, in the formula as it was read.");
        LeastPlaces x = Check.sheet("A=a+b;!(A*c)*d-7+(e-!f)*g");
        s.due("turn", x.turn(1, 0), 3);
        s.dueAll("kinds", Check.nodes(x, 1, 0), 4, 6, 5, 1, 3, 1, 1, 5, 6, 3, 6, 4, 1, 1, 1, 1, 0);
        s.dueAll("sizes", Check.nodes(x, 1, 5), 17, 6, 4, 1, 2, 1, 1, 10, 8, 6, 5, 3, 1, 1, 1, 1, 1);
        s.due("turn back", x.turn(1, 0), 3);
        s.dueAll("kinds", Check.nodes(x, 1, 0), 4, 5, 6, 3, 6, 4, 1, 1, 1, 1, 0, 6, 5, 1, 3, 1, 1);
    }

    private void turnOtherKinds() {
        Sentence s = promise(5, "ILLEGAL_STATE if it is no \"+\" or \"*\"");
        String text = "A=a*b;!(A-7)*(h+0)";
        int[] kinds = {6, 3, 5, 2, 0, 4, 1, 0};
        for (int node = 0; node < kinds.length; node++) {
            int tried = node;
            s.due("kind of node " + node, Check.sheet(text).node(1, node, 0), kinds[node]);
            if (kinds[node] == 4 || kinds[node] == 6) {
                s.due("turn of node " + node, Check.sheet(text).turn(1, node), 3);
            } else {
                s.unchanged(() -> Check.sheet(text), "turn of node " + node, x -> x.turn(1, tried), Check.STATE);
            }
        }
        s.unchanged(LeastPlaces::new, "turn on a new object", x -> x.turn(0, 0), Check.STATE);
        s.unchanged(Starts::full, "turn of a \"-\"", x -> x.turn(2, 1), Check.STATE);
    }

    private void turnNeed() {
        Sentence s = promise(5, "Returns the need of the formula then");
        s.due("a+b", Check.sheet("a+b").turn(0, 0), 2);
        s.due("a cheap definition", Check.sheet("A=a+b;7").turn(0, 0), 2);
        s.due("the expanded form's", Check.sheet("A=a+b;B=A*A;B").turn(1, 0), 3);
        s.due("the formula's, not the node's", Check.sheet("a*b-(c+d)*(e+f)").turn(0, 1), 3);
        Sentence t = promise(5, "This is an action.");
        LeastPlaces x = Starts.partly();
        x.turn(1, 0);
        t.due("states", x.count(5), 3);
        t.due("undo", x.undo(), 2);
        t.due("the left part of A*c", x.node(1, 1, 0), 4);
    }

    // ---- promises 6 to 8

    private void setCellArguments() {
        Sentence s = promise(6, "`cell`: 0 to 7, for the letters a to h");
        for (int cell = 0; cell < 8; cell++) {
            LeastPlaces x = Check.sheet("" + (char) ('a' + cell));
            s.due("setCell " + cell, x.setCell(cell, 50 + cell), 0);
            s.due("its letter's value", x.formula(0, 4), 50 + cell);
            for (int other = 0; other < 8; other++) {
                s.due("cell " + other, x.cell(other), other == cell ? 50 + cell : 0);
            }
        }
        Sentence t = promise(6, "`value`: -999 to 999");
        LeastPlaces x = new LeastPlaces();
        t.due("the least", x.setCell(4, -999), 0);
        t.due("the cell", x.cell(4), -999);
        t.due("the greatest", x.setCell(4, 999), -999);
        t.due("the cell", x.cell(4), 999);
        Sentence u = promise(6, "Returns the previous value");
        u.due("of 999", x.setCell(4, 0), 999);
        u.due("of 0", x.setCell(4, 0), 0);
        u.due("of another cell", x.setCell(5, 1), 0);
        Sentence v = promise(6, "Sets a cell. This is an action.");
        v.due("states", x.count(5), 5);
    }

    private void setCellRefused() {
        Sentence s = promise(6, "INVALID_ARGUMENT if an argument is out of range");
        dueRange(s, "setCell of cell", 0, 7, (x, cell) -> x.setCell(cell, 1));
        dueRange(s, "setCell to", -999, 999, (x, value) -> x.setCell(0, value));
        dueRange(s, "setCell of the last cell to", -999, 999, (x, value) -> x.setCell(7, value));
        s.refuses("setCell(8, 1000)", x -> x.setCell(8, 1000), Check.INVALID);
        s.refuses("setCell(-1, -1000)", x -> x.setCell(-1, -1000), Check.INVALID);
    }

    private void setPlaces() {
        Sentence s = promise(7, "`places`: 2 to 8");
        LeastPlaces x = new LeastPlaces();
        s.due("the fewest", x.setPlaces(2), 3);
        s.due("the most", x.setPlaces(8), 2);
        s.due("the places", x.count(3), 8);
        Sentence t = promise(7, "Returns the previous number");
        int before = 8;
        for (int places = 2; places <= 8; places++) {
            t.due("setPlaces " + places, x.setPlaces(places), before);
            before = places;
        }
        Sentence u = promise(7, "INVALID_ARGUMENT if places is out of range");
        dueRange(u, "setPlaces", 2, 8, LeastPlaces::setPlaces);
        u.refuses("setPlaces 0", y -> y.setPlaces(0), Check.INVALID);
        Sentence v = promise(7, "Sets the number of places. This is an action.");
        LeastPlaces y = Starts.partly();
        y.setPlaces(3);
        v.due("states", y.count(5), 3);
    }

    private void undo() {
        Sentence s = promise(8, "Returns the number of states that are left in the history");
        LeastPlaces x = Starts.full();
        for (int left = 4; left >= 0; left--) {
            s.due("undo", x.undo(), left);
            s.due("states", x.count(5), left);
        }
        Sentence t = promise(8, "ILLEGAL_STATE if it is empty");
        t.due("the sixth undo", x.undo(), Check.STATE);
        t.due("states", x.count(5), 0);
        t.unchanged(LeastPlaces::new, "undo on a new object", LeastPlaces::undo, Check.STATE);
        t.unchanged(CallEdges::undone, "undo when all is undone", LeastPlaces::undo, Check.STATE);
        LeastPlaces y = new LeastPlaces();
        y.setCell(0, 1);
        t.due("undo of one state", y.undo(), 0);
        t.due("undo of none", y.undo(), Check.STATE);
    }

    private static LeastPlaces undone() {
        LeastPlaces x = Starts.full();
        x.setCell(1, 44);
        for (int i = 0; i < 5; i++) {
            x.undo();
        }
        return x;
    }

    // ---- promises 9 to 12

    private void count() {
        Sentence s = promise(9, "`what`: 0 the number of formulas, 1 of cheap definitions, 2 of nodes of all formulas as they "
                + "were read, 3 the places, 4 the greatest need of a formula that is no cheap definition, 5 the number of "
                + "states in the history, 6 the length of the text");
        int[] want = {3, 1, 3 + 3 + 8, 3, 3, 2, 10};
        int[] wantFull = {3, 1, 3 + 3 + 8, 2, 3, 5, 10};
        Sentence t = promise(9, "Returns the number");
        for (int what = 0; what < 7; what++) {
            s.due("count " + what, Starts.partly().count(what), want[what]);
            t.due("count " + what, Starts.full().count(what), wantFull[what]);
        }
        Sentence u = promise(9, "INVALID_ARGUMENT if what is out of range");
        dueRange(u, "count", 0, 6, LeastPlaces::count);
    }

    private void countNumbers() {
        Sentence s = promise(9, "4 the greatest need of a formula that is no cheap definition");
        s.due("leaves", Check.sheet("A=7;A").count(4), 1);
        s.due("a cheap definition's need of 2", Check.sheet("A=a+b;7").count(4), 1);
        s.due("another definition's need of 2", Check.sheet("A=a*b;7").count(4), 2);
        s.due("the result's", Check.sheet("A=a*b;A*A+(a-b)").count(4), 3);
        s.due("the most", Check.sheet("A=a+b;(A*A-A*A)*(A*A-A*A)").count(4), 5);
        Sentence t = promise(9, "1 of cheap definitions, 2 of nodes of all formulas as they were read");
        t.due("no definition", Check.sheet("7").count(1), 0);
        t.due("5 cheap ones", Check.sheet("A=1;B=A;C=B;D=!C;E=!D;E").count(1), 5);
        t.due("as read", Check.sheet("A=a+b;A*A").count(2), 6);
    }

    // Of the formulas of a greater sheet, which is there before, nothing is counted.
    private void formulasBefore() {
        Sentence s = promise(9, "0 the number of formulas, 1 of cheap definitions, 2 of nodes of all formulas");
        LeastPlaces x = Check.sheet("A=1;B=!a;C=7-b;D=c;E=0;a*b-c*d");
        s.due("cheap ones before", x.count(1), 5);
        Check.readText(x, "7");
        int[] want = {1, 0, 1, 3, 1, 2, 1};
        for (int what = 0; what < 7; what++) {
            s.due("count " + what + " behind a greater sheet", x.count(what), want[what]);
        }
        x.undo();
        s.due("cheap ones again", x.count(1), 5);
        Sentence t = promise(9, "4 the greatest need of a formula");
        Sentence u = promise(10, "6 how often its capital stands in the expanded forms of other formulas");
        LeastPlaces y = Check.sheet("A=a*b;B=A*A;A*A-A*A");
        t.due("before", y.count(4), 3);
        u.due("before", y.formula(0, 6), 6);
        Check.readText(y, "A=a*b;7");
        t.due("behind a greater sheet", y.count(4), 2);
        u.due("behind a greater sheet", y.formula(0, 6), 0);
    }

    private void formula() {
        Sentence s = promise(10, "`formula`: a formula");
        LeastPlaces x = Check.sheet("A=1;B=2;C=3;D=4;E=5;6");
        for (int formula = 0; formula < 6; formula++) {
            s.due("value of " + formula, x.formula(formula, 4), formula + 1);
        }
        s.due("formula 6", x.formula(6, 4), Check.INVALID);
        Sentence t = promise(10, "INVALID_ARGUMENT if there is no such formula or what is out of range");
        dueRange(t, "formula", 0, 2, (y, formula) -> y.formula(formula, 0));
        dueRange(t, "formula 0, what", 0, 6, (y, what) -> y.formula(0, what));
        t.unchanged(Starts::full, "the result, what 7", y -> y.formula(2, 7), Check.INVALID);
        t.unchanged(LeastPlaces::new, "formula 1 of a new object", y -> y.formula(1, 0), Check.INVALID);
        LeastPlaces z = Starts.partly();
        z.read();
        t.due("a formula that there was before", z.formula(2, 0), Check.INVALID);
        z.undo();
        t.due("and that there is again", z.formula(2, 0), 8);
    }

    private void formulaProperties() {
        Sentence s = promise(10, "`what`: 0 the number of nodes as it was read, 1 of nodes of its expanded form, 2 its need, "
                + "3 1 if it is a cheap definition and 0 if not, 4 its value, 5 the depth of its expanded form (a leaf has "
                + "the depth 1, a node 1 more than the deepest of its parts), 6 how often its capital stands in the "
                + "expanded forms of other formulas that are no cheap definitions (0 for the result)");
        LeastPlaces x = Check.sheet("A=a+b;B=A*A;C=B;B*!B-C");
        x.setCell(0, 2);
        int[][] want = {{3, 3, 2, 1, 2, 2, 0}, {3, 7, 3, 0, 4, 3, 3}, {1, 1, 1, 0, 4, 1, 1}, {6, 6, 2, 0, -20, 4, 0}};
        Sentence t = promise(10, "Returns the property");
        for (int formula = 0; formula < 4; formula++) {
            for (int what = 0; what < 7; what++) {
                s.due("formula " + formula + ", " + what, x.formula(formula, what), want[formula][what]);
            }
        }
        t.due("depth of a leaf", Check.sheet("7").formula(0, 5), 1);
        t.due("depth of \"!\"", Check.sheet("!7").formula(0, 5), 2);
        t.due("depth of a deeper left part", Check.sheet("!a+7").formula(0, 5), 3);
        t.due("depth of a deeper right part", Check.sheet("7+!a").formula(0, 5), 3);
        t.due("the greatest depth", Check.sheet("A=!!a;!!!!!!!(A" + "+a".repeat(11) + ")").formula(1, 5), 21);
        t.due("most uses", Check.sheet("A=a*b;!A" + "+A".repeat(14)).formula(0, 6), 15);
    }

    private void node() {
        Sentence s = promise(11, "`formula`: a formula");
        Sentence t = promise(11, "`node`: a node");
        LeastPlaces x = Check.sheet("A=1;B=2;C=3;D=4;E=5;D-E");
        for (int formula = 0; formula < 6; formula++) {
            s.due("value of " + formula, x.node(formula, 0, 6), formula < 5 ? formula + 1 : -1);
        }
        s.due("formula 6", x.node(6, 0, 6), Check.INVALID);
        t.due("the last node", x.node(5, 2, 1), 5);
        t.due("none behind it", x.node(5, 3, 1), Check.INVALID);
        t.due("none ahead of 0", x.node(5, -1, 1), Check.INVALID);
        LeastPlaces most = Check.sheet("A=a+b;!A" + "*A".repeat(14));
        t.due("the last one of 60", most.node(1, 59, 1), 1);
        t.due("none behind it", most.node(1, 60, 1), Check.INVALID);
        Sentence u = promise(11, "INVALID_ARGUMENT if there is no such formula or node or what is out of range");
        dueRange(u, "node in formula", 0, 2, (y, formula) -> y.node(formula, 0, 0));
        dueRange(u, "node", 0, 9, (y, node) -> y.node(y.count(0) - 1, node, 0));
        dueRange(u, "node 0, what", 0, 6, (y, what) -> y.node(0, 0, what));
        u.unchanged(Starts::full, "node 3 of 3", y -> y.node(0, 3, 0), Check.INVALID);
        u.unchanged(LeastPlaces::new, "node 1 of 1", y -> y.node(0, 1, 0), Check.INVALID);
        Sentence v = promise(11, "Returns the property");
        v.due("kinds", most.node(1, 0, 0), 6);
        v.due("the number of nodes", most.node(1, 0, 5), 60);
    }

    private void nodeNone() {
        Sentence s = promise(11, "`what`: 0 its kind (0 number, 1 letter, 2 capital, 3 \"!\", 4 \"+\", 5 \"-\", 6 \"*\"), 1 its "
                + "number, its cell, or its definition (NONE for others), 2 its left or only part, 3 its right part (2 and "
                + "3: NONE if there is none), 4 its need, 5 the number of its nodes, 6 its value");
        LeastPlaces x = Check.sheet("A=a*b;!(A-999)*(h+0)");
        int none = Check.NONE;
        s.dueAll("kinds", Check.nodes(x, 1, 0), 6, 3, 5, 2, 0, 4, 1, 0);
        s.dueAll("contents", Check.nodes(x, 1, 1), none, none, none, 0, 999, none, 7, 0);
        s.dueAll("left or only parts", Check.nodes(x, 1, 2), 1, 2, 3, none, none, 6, none, none);
        s.dueAll("right parts", Check.nodes(x, 1, 3), 5, none, 4, none, none, 7, none, none);
        s.dueAll("needs", Check.nodes(x, 1, 4), 3, 2, 2, 1, 1, 2, 1, 1);
        s.dueAll("numbers of nodes", Check.nodes(x, 1, 5), 8, 4, 3, 1, 1, 3, 1, 1);
        x.setCell(7, 2);
        s.dueAll("values", Check.nodes(x, 1, 6), 1998, 999, -999, 0, 999, 2, 2, 0);
        for (int what = 1; what <= 3; what++) {
            int tried = what;
            int node = what == 1 ? 0 : 3;
            s.unchanged(() -> Check.sheet("A=a*b;!(A-999)*(h+0)"), "node " + node + ", what " + what,
                    y -> y.node(1, node, tried), Check.NONE);
        }
        s.unchanged(() -> Check.sheet("!7"), "the right part of \"!\"", y -> y.node(0, 0, 3), Check.NONE);
    }

    private void cell() {
        Sentence s = promise(12, "`cell`: 0 to 7");
        LeastPlaces x = new LeastPlaces();
        IntUnaryOperator value = cell -> 999 - 222 * cell;
        for (int cell = 0; cell < 8; cell++) {
            x.setCell(cell, value.applyAsInt(cell));
        }
        Sentence t = promise(12, "Returns its value");
        for (int cell = 0; cell < 8; cell++) {
            s.due("cell " + cell, x.cell(cell), value.applyAsInt(cell));
            t.due("cell " + cell + " of a new object", new LeastPlaces().cell(cell), 0);
        }
        Sentence u = promise(12, "INVALID_ARGUMENT if cell is out of range");
        dueRange(u, "cell", 0, 7, LeastPlaces::cell);
    }
}

import java.util.function.ToIntFunction;

/** The edges that "Terms" names for cheap definitions, needs, plans, the history and errors. */
final class PlanEdges {
    /** Parts of needs 1 to 5, made of the cheap definition A=a+b. */
    private static final String[] PARTS = {"", "a", "A", "(A*A)", "(A*A-A*A)", "((A*A-A*A)*(A*A-A*A))"};

    private final Check check;

    PlanEdges(Check check) {
        this.check = check;
    }

    void all() {
        cheapByNodes();
        cheapBySigns();
        cheapByExpandedForm();
        resultIsNotCheap();
        expandedNumbers();
        needOfLeaf();
        needOfOpposite();
        needOfPair();
        needOfFormula();
        placesOfPlans();
        storedWhetherUsed();
        prices();
        firstPart();
        needLessThanPlaces();
        needNotLessThanPlaces();
        stepNumbers();
        fiveStates();
        sixthState();
        whatAStateIs();
        recordsThoughNothingChanges();
        latestState();
        errorsChangeNothing();
        errorsInOrder();
        noneIsNoError();
    }

    // ---- cheap definitions

    private Sentence cheap(String words) {
        return new Sentence(check, "Cheap definitions", words);
    }

    private static void dueCheap(Sentence s, String definitions, boolean cheap) {
        LeastPlaces x = Check.sheet(definitions + "7");
        int last = x.count(0) - 2;
        s.due("the last one of " + definitions + " is cheap", x.formula(last, 3), cheap ? 1 : 0);
        LeastPlaces y = Check.sheet(definitions + "!" + (char) ('A' + last));
        s.due("nodes of the result behind " + definitions, y.formula(last + 1, 1), cheap ? 1 + x.formula(last, 1) : 2);
        s.due("stands in the result behind " + definitions, y.formula(last, 6), cheap ? 0 : 1);
    }

    private void cheapByNodes() {
        Sentence s = cheap("A definition is cheap if its expanded form has at most 3 nodes");
        String[] small = {"7", "999", "a", "(((h)))", "!a", "!7", "!!a", "a+b", "a-7", "(a)-(b)", "0+0"};
        for (String formula : small) {
            dueCheap(s, "A=" + formula + ";", true);
        }
        String[] large = {"!!!a", "!a+b", "a-!b", "!(a+b)", "!(7-7)", "a+b+c", "a-(b-c)", "!!!!a"};
        for (String formula : large) {
            dueCheap(s, "A=" + formula + ";", false);
        }
    }

    private void cheapBySigns() {
        Sentence s = cheap("at most 3 nodes, and neither a \"*\" nor a capital");
        dueCheap(s, "A=a*b;", false);
        dueCheap(s, "A=a+b;", true);
        dueCheap(s, "A=0*0;", false);
        dueCheap(s, "A=a*b;B=A;", false);
        dueCheap(s, "A=a*b;B=!A;", false);
        dueCheap(s, "A=a*b;B=A+1;", false);
        dueCheap(s, "A=a*b;B=1-A;", false);
        dueCheap(s, "A=a+b+c;B=A;", false);
    }

    private void cheapByExpandedForm() {
        Sentence s = cheap("if its expanded form has at most 3 nodes");
        dueCheap(s, "A=a+b;B=A;", true);
        dueCheap(s, "A=a+b;B=A;C=B;D=C;E=D;", true);
        dueCheap(s, "A=a+b;B=!A;", false);
        dueCheap(s, "A=!a;B=!A;", true);
        dueCheap(s, "A=!a;B=!A;C=!B;", false);
        dueCheap(s, "A=7;B=A+A;", true);
        dueCheap(s, "A=!7;B=A+7;", false);
        dueCheap(s, "A=7;B=A+A+A;", false);
        dueCheap(s, "A=7;B=A*A;", false);
        dueCheap(s, "A=a*b;B=A;C=B;", false);
    }

    private void resultIsNotCheap() {
        Sentence s = cheap("A definition is cheap");
        LeastPlaces x = Check.sheet("A=7;a");
        s.due("the definition", x.formula(0, 3), 1);
        s.due("the result", x.formula(1, 3), 0);
        s.due("how many", x.count(1), 1);
        LeastPlaces y = Check.sheet("A=1;B=2;C=3;D=4;E=5;6");
        s.due("how many of 5", y.count(1), 5);
    }

    private void expandedNumbers() {
        Sentence s = cheap("The nodes of an expanded form are numbered from 0 in this order: a node, then its left "
                + "(or only) part with all its nodes, then its right part with all its nodes.");
        LeastPlaces x = Check.sheet("A=a+b;!A*(A-7)");
        s.dueAll("kinds", Check.nodes(x, 1, 0), 6, 3, 4, 1, 1, 5, 4, 1, 1, 0);
        s.dueAll("left parts", Check.nodes(x, 1, 2), 1, 2, 3, Check.NONE, Check.NONE, 6, 7, Check.NONE, Check.NONE,
                Check.NONE);
        s.dueAll("right parts", Check.nodes(x, 1, 3), 5, Check.NONE, 4, Check.NONE, Check.NONE, 9, 8, Check.NONE,
                Check.NONE, Check.NONE);
        s.due("the first one", x.node(1, 0, 0), 6);
        s.due("none ahead of it", x.node(1, -1, 0), Check.INVALID);
        s.due("the last one", x.node(1, 9, 1), 7);
        s.due("none behind it", x.node(1, 10, 1), Check.INVALID);
    }

    // ---- needs

    private Sentence needs(String words) {
        return new Sentence(check, "Needs", words);
    }

    private void needOfLeaf() {
        Sentence s = needs("The need of a leaf is 1");
        LeastPlaces x = Check.sheet("A=a*b;A+7-h");
        s.dueAll("a capital, a number and a letter", Check.nodes(x, 1, 4), 2, 2, 1, 1, 1);
        s.due("a capital alone", Check.sheet("A=(a+b)*(c+d);A").formula(1, 2), 1);
        s.due("a new object", new LeastPlaces().formula(0, 2), 1);
    }

    private void needOfOpposite() {
        Sentence s = needs("that of \"!\" is that of its part");
        for (int need = 1; need < PARTS.length; need++) {
            LeastPlaces x = Check.sheet("A=a+b;!!" + PARTS[need]);
            s.due("\"!\" of " + need, x.formula(1, 2), need);
            s.due("node of " + need, x.node(1, 1, 4), need);
        }
    }

    // Two parts that both need 5 would have 31 nodes.
    private void needOfPair() {
        Sentence s = needs("the greater one of the needs of both if they are unlike, and otherwise 1 more than the need of one");
        for (int left = 1; left <= 5; left++) {
            for (int right = 1; right <= 5 && left + right < 10; right++) {
                for (int sign = 0; sign < 3; sign++) {
                    LeastPlaces x = Check.sheet("A=a+b;" + PARTS[left] + "+-*".charAt(sign) + PARTS[right]);
                    int need = left == right ? left + 1 : Math.max(left, right);
                    s.due(left + " and " + right, x.formula(1, 2), need);
                }
            }
        }
    }

    private void needOfFormula() {
        Sentence s = needs("The need of a formula is that of its node 0.");
        LeastPlaces x = Check.sheet("A=a+b;B=c*(A-A);(A-A)*(A-A)");
        int[] want = {2, 3, 4};
        for (int formula = 0; formula < 3; formula++) {
            s.due("formula " + formula, x.formula(formula, 2), want[formula]);
            s.due("node 0 of formula " + formula, x.node(formula, 0, 4), want[formula]);
        }
    }

    // ---- plans

    private Sentence plans(String words) {
        return new Sentence(check, "Plans", words);
    }

    private static LeastPlaces with(int places, String text) {
        LeastPlaces x = Check.sheet(text);
        x.setPlaces(places);
        return x;
    }

    private void placesOfPlans() {
        Sentence s = plans("with a number of places (2 to 8; at first 3)");
        LeastPlaces x = new LeastPlaces();
        s.due("at first", x.count(3), 3);
        for (int places = 2; places <= 8; places++) {
            x.setPlaces(places);
            s.due("places", x.count(3), places);
        }
        for (int places : Check.outside(2, 8)) {
            s.refuses("setPlaces(" + places + ")", y -> y.setPlaces(places), Check.INVALID);
            s.refuses("costWith(" + places + ")", y -> y.costWith(places), Check.INVALID);
        }
    }

    private void storedWhetherUsed() {
        Sentence s = plans("A plan works out all definitions that are not cheap, in their order (whether they are used "
                + "or not), each of which is then stored (a step that costs 4), and then the result");
        LeastPlaces x = Check.sheet("A=a*b;B=!c;C=c*!d;7");
        s.dueAll("kinds", Check.steps(x, 0), 0, 0, 1, 4, 0, 0, 1, 1, 4, 0);
        s.dueAll("formulas", Check.steps(x, 1), 0, 0, 0, 0, 2, 2, 2, 2, 2, 3);
        s.due("cost", x.plan(1), 5 + 4 + 6 + 4 + 1);
        LeastPlaces y = Check.sheet("A=a;B=!b;C=7-c;D=!!d;E=0;h");
        s.dueAll("with cheap definitions alone", Check.steps(y, 0), 0);
        s.due("its cost", y.plan(1), 1);
        LeastPlaces z = Check.sheet("A=a*a;B=A*a;C=B*a;D=C*a;E=D*a;E");
        s.due("five stored ones", z.plan(1), 5 + 4 * (4 + 1 + 3) + 5 * 4 + 4);
        s.due("loads of them", z.plan(3), 5);
    }

    private void prices() {
        dueCost("A number or a letter is loaded: a step that costs 1.", "7", 1, 0);
        dueCost("A number or a letter is loaded: a step that costs 1.", "h", 1, 0);
        dueCost("A capital is loaded from where it was stored: a step that costs 4.", "A=a*b;A", 5 + 4 + 4, 3);
        dueCost("its part is worked out with p places; then a step that costs 1", "!a", 2, 1);
        dueCost("its part is worked out with p places; then a step that costs 1", "!!!!!!!!a", 9, 8);
        dueCost("Then the operation is a step that costs 1, or for \"*\" 3.", "a+b", 3, 1);
        dueCost("Then the operation is a step that costs 1, or for \"*\" 3.", "a-b", 3, 1);
        dueCost("Then the operation is a step that costs 1, or for \"*\" 3.", "a*b", 5, 3);
    }

    private void dueCost(String words, String text, int cost, int operations) {
        Sentence s = plans(words);
        for (int places = 2; places <= 8; places++) {
            LeastPlaces x = with(places, text);
            s.due("cost of " + text, x.plan(1), cost);
            s.due("cost of " + text, x.costWith(places), cost);
            s.due("operations of " + text, x.plan(4), operations);
        }
    }

    private void firstPart() {
        Sentence s = plans("the first one is the part with the greater need, of two like needs the left one");
        s.dueAll("1 and 1", Check.steps(Check.sheet("a-b"), 2), 1, 2, 0);
        s.dueAll("2 and 1", Check.steps(Check.sheet("(a*b)-c"), 2), 2, 3, 1, 4, 0);
        s.dueAll("1 and 2", Check.steps(Check.sheet("c-(a*b)"), 2), 3, 4, 2, 1, 0);
        s.dueAll("2 and 2", Check.steps(Check.sheet("a*b-c*d"), 2), 2, 3, 1, 5, 6, 4, 0);
        s.dueAll("2 and 3", Check.steps(Check.sheet("e*f-(a*b-c*d)"), 2), 6, 7, 5, 9, 10, 8, 4, 2, 3, 1, 0);
        s.dueAll("1 and 1 below \"!\"", Check.steps(Check.sheet("!!a-!b"), 2), 3, 2, 1, 5, 4, 0);
    }

    // Two parts of need n: with n + 1 places there is no spill, with n places one and no more.
    private void needLessThanPlaces() {
        Sentence s = plans("If the need of the second part is less than p, the second part is worked out with p - 1 places.");
        s.due("1 and 1 with 2", with(2, "a*b").plan(2), 0);
        for (int need = 2; need <= 4; need++) {
            for (int places = need + 1; places <= 8; places++) {
                LeastPlaces x = with(places, "A=a+b;" + PARTS[need] + "*" + PARTS[need]);
                s.due("spills of " + need + " and " + need + " with " + places, x.plan(2), 0);
            }
        }
        s.due("5 and 4 with 5", with(5, "A=a+b;" + PARTS[5] + "*" + PARTS[4]).plan(2), 0);
        s.due("4 and 5 with 5", with(5, "A=a+b;" + PARTS[4] + "*" + PARTS[5]).plan(2), 0);
        LeastPlaces x = with(3, "a*b-c*d");
        s.dueAll("places held", Check.steps(x, 3), 1, 2, 1, 2, 3, 2, 1);
    }

    private void needNotLessThanPlaces() {
        Sentence s = plans("Otherwise the value of the first part is spilled (a step that costs 4), the second part is "
                + "worked out with p places, and the value of the first one is loaded again (a step that costs 4).");
        for (int need = 2; need <= 4; need++) {
            String text = "A=a+b;" + PARTS[need] + "*" + PARTS[need];
            LeastPlaces x = with(need, text);
            s.due("spills of " + need + " and " + need + " with as many", x.plan(2), 1);
            s.due("its cost", x.plan(1), x.costWith(need + 1) + 4 + 4);
        }
        s.due("5 and 4 with 4", with(4, "A=a+b;" + PARTS[5] + "*" + PARTS[4]).plan(2), 2);
        LeastPlaces x = with(2, "a*b-c*d");
        s.dueAll("kinds", Check.steps(x, 0), 0, 0, 1, 2, 0, 0, 1, 3, 1);
        s.dueAll("nodes", Check.steps(x, 2), 2, 3, 1, 1, 5, 6, 4, 1, 0);
        s.dueAll("places held", Check.steps(x, 3), 1, 2, 1, 0, 1, 2, 1, 2, 1);
    }

    private void stepNumbers() {
        Sentence s = plans("The steps of a plan are numbered from 0.");
        LeastPlaces x = Check.sheet("A=a*b;A");
        s.due("the first one", x.step(0, 2), 1);
        s.due("none ahead of it", x.step(-1, 2), Check.INVALID);
        s.due("the last one", x.step(4, 0), 5);
        s.due("none behind it", x.step(5, 0), Check.NONE);
        Sentence t = plans("(for 2 and 3 the node whose value it is, for 4 the node 0)");
        LeastPlaces y = with(2, "A=e-(a*b-c*d);1");
        t.dueAll("kinds", Check.steps(y, 0), 0, 0, 1, 2, 0, 0, 1, 3, 1, 0, 1, 4, 0);
        t.dueAll("nodes", Check.steps(y, 2), 4, 5, 3, 3, 7, 8, 6, 3, 2, 1, 0, 0, 0);
    }

    // ---- the history

    private Sentence undo(String words) {
        return new Sentence(check, "Undo", words);
    }

    private void fiveStates() {
        Sentence s = undo("A history of at most 5 states is kept");
        LeastPlaces x = new LeastPlaces();
        s.due("states at first", x.count(5), 0);
        for (int i = 1; i <= 8; i++) {
            x.setCell(0, i);
            s.due("states behind action " + i, x.count(5), Math.min(5, i));
        }
        for (int i = 4; i >= 0; i--) {
            s.due("undo", x.undo(), i);
        }
        s.due("undo", x.undo(), Check.STATE);
    }

    // The sixth state may be recorded by each of the four actions; cell 0 tells which states are left.
    private void sixthState() {
        Sentence s = undo("when a sixth one is recorded, the oldest one is dropped");
        dueSixth(s, "read", LeastPlaces::read, 1);
        dueSixth(s, "turn", x -> x.turn(0, 0), 2);
        dueSixth(s, "setCell", x -> x.setCell(7, 7), 0);
        dueSixth(s, "setPlaces", x -> x.setPlaces(8), 3);
        LeastPlaces x = fiveRecorded();
        for (int i = 4; i >= 0; i--) {
            s.due("undo without a sixth one", x.undo(), i);
        }
        s.due("the oldest one is that of the new object", x.formula(0, 0), 1);
    }

    /** Five states: that of a new object, and then those of cell 0 being 0, 1, 2 and 3. */
    private static LeastPlaces fiveRecorded() {
        LeastPlaces x = Check.sheet("a+b");
        for (int i = 1; i <= 4; i++) {
            x.setCell(0, i);
        }
        return x;
    }

    private static void dueSixth(Sentence s, String name, ToIntFunction<LeastPlaces> action, int answer) {
        LeastPlaces x = fiveRecorded();
        s.due(name, action.applyAsInt(x), answer);
        s.due("states behind " + name, x.count(5), 5);
        for (int i = 4; i >= 0; i--) {
            s.due("undo behind " + name, x.undo(), i);
            s.due("cell 0 then", x.cell(0), i);
        }
        s.due("the new object's state is dropped by " + name, x.formula(0, 0), 3);
        s.due("undo behind " + name, x.undo(), Check.STATE);
    }

    private void whatAStateIs() {
        Sentence s = undo("a state is everything but the text and the history");
        LeastPlaces x = Check.sheet("A=a;A+b");
        x.setCell(1, 5);
        x.turn(1, 0);
        x.setPlaces(7);
        Check.readText(x, "12*3");
        s.due("undo of a read", x.undo(), 4);
        s.due("formulas", x.count(0), 2);
        s.due("the turned node", x.node(1, 1, 1), 1);
        s.due("value", x.formula(1, 4), 5);
        s.due("places", x.count(3), 7);
        s.due("undo of places", x.undo(), 3);
        s.due("places", x.count(3), 3);
        s.due("undo of a turn", x.undo(), 2);
        s.due("the turned node", x.node(1, 1, 1), 0);
        s.due("undo of a cell", x.undo(), 1);
        s.due("cell", x.cell(1), 0);
        s.due("value", x.formula(1, 4), 0);
        s.due("undo of a read", x.undo(), 0);
        s.due("formulas", x.count(0), 1);
        s.due("length of the text", x.count(6), 4);
        s.due("the text", x.read(), 1);
        s.due("the text's value", x.formula(0, 4), 36);
    }

    private void recordsThoughNothingChanges() {
        Sentence s = undo("Every successful call of a method that is called an action records the state before it "
                + "(also if nothing changes by it)");
        LeastPlaces x = Check.sheet("a+a");
        s.due("states", x.count(5), 1);
        s.due("the same text", x.read(), 1);
        s.due("states", x.count(5), 2);
        s.due("parts that are alike", x.turn(0, 0), 2);
        s.due("states", x.count(5), 3);
        s.due("the same value", x.setCell(3, 0), 0);
        s.due("states", x.count(5), 4);
        s.due("the same places", x.setPlaces(3), 3);
        s.due("states", x.count(5), 5);
        x.clearText();
        x.append('b');
        s.due("the text is no state", x.count(5), 5);
    }

    private void latestState() {
        Sentence s = undo("undo() removes the latest state from the history and restores it.");
        LeastPlaces x = new LeastPlaces();
        for (int i = 1; i <= 5; i++) {
            x.setCell(2, i);
        }
        s.due("undo", x.undo(), 4);
        s.due("undo", x.undo(), 3);
        s.due("cell", x.cell(2), 3);
        x.setCell(2, 30);
        s.due("states behind another action", x.count(5), 4);
        s.due("undo of it", x.undo(), 3);
        s.due("cell", x.cell(2), 3);
        s.due("undo", x.undo(), 2);
        s.due("cell", x.cell(2), 2);
        s.due("undo is no action", x.count(5), 2);
    }

    // ---- errors

    private Sentence errors(String words) {
        return new Sentence(check, "Errors", words);
    }

    // The edges of each argument are tried with the promises; here are arguments that are far off, all at once.
    private void errorsChangeNothing() {
        Sentence s = errors("A call that returns an error code changes nothing.");
        for (int far : new int[] {Integer.MIN_VALUE, Integer.MAX_VALUE, -1000001, 1 << 16, 1 << 24, -256}) {
            s.refuses("append(" + far + ")", x -> x.append(far), Check.INVALID);
            s.refuses("turn(" + far + ", " + far + ")", x -> x.turn(far, far), Check.INVALID);
            s.refuses("setCell(" + far + ", " + far + ")", x -> x.setCell(far, far), Check.INVALID);
            s.refuses("setPlaces(" + far + ")", x -> x.setPlaces(far), Check.INVALID);
            s.refuses("count(" + far + ")", x -> x.count(far), Check.INVALID);
            s.refuses("formula(" + far + ", " + far + ")", x -> x.formula(far, far), Check.INVALID);
            s.refuses("node(" + far + ", " + far + ", " + far + ")", x -> x.node(far, far, far), Check.INVALID);
            s.refuses("cell(" + far + ")", x -> x.cell(far), Check.INVALID);
            s.refuses("plan(" + far + ")", x -> x.plan(far), Check.INVALID);
            s.refuses("step(" + far + ", " + far + ")", x -> x.step(far, far), Check.INVALID);
            s.refuses("costWith(" + far + ")", x -> x.costWith(far), Check.INVALID);
            s.refuses("proved(" + far + ")", x -> x.proved(far), Check.INVALID);
            s.refuses("ways(" + far + ")", x -> x.ways(far), Check.INVALID);
        }
        s.unchanged(LeastPlaces::new, "undo()", LeastPlaces::undo, Check.STATE);
        s.refuses("turn of the last node, a leaf", x -> x.turn(0, x.formula(0, 0) - 1), Check.STATE);
    }

    private void errorsInOrder() {
        Sentence s = errors("If several error conditions apply, the method returns the one that its description lists first");
        s.due("append(0) to a full text", CallEdges.fullText().append(0), Check.INVALID);
        s.due("append(256) to a full text", CallEdges.fullText().append(256), Check.INVALID);
        s.due("append(255) to a full text", CallEdges.fullText().append(255), Check.FULL);
        s.due("turn without the formula", new LeastPlaces().turn(1, 0), Check.INVALID);
        s.due("turn without the node", new LeastPlaces().turn(0, 1), Check.INVALID);
        s.due("turn of a number", new LeastPlaces().turn(0, 0), Check.STATE);
    }

    private void noneIsNoError() {
        Sentence s = errors("NONE is no error, and it is returned only if no error condition applies.");
        s.refuses("the left part of the last node, a leaf", x -> x.node(0, x.formula(0, 1) - 1, 2), Check.NONE);
        s.refuses("node(0, 99, 2)", x -> x.node(0, 99, 2), Check.INVALID);
        s.refuses("node(9, 0, 2)", x -> x.node(9, 0, 2), Check.INVALID);
        s.refuses("node(0, 0, 7)", x -> x.node(0, 0, 7), Check.INVALID);
        s.refuses("step(999, 0)", x -> x.step(999, 0), Check.NONE);
        s.refuses("step(999, 4)", x -> x.step(999, 4), Check.INVALID);
        s.refuses("step(999, -1)", x -> x.step(999, -1), Check.INVALID);
        String many = "a" + "+a".repeat(11);
        s.unchanged(() -> Check.sheet(many), "proved(0)", x -> x.proved(0), Check.NONE);
        s.unchanged(() -> Check.sheet(many), "proved(1)", x -> x.proved(1), Check.INVALID);
        s.unchanged(() -> Check.sheet(many), "ways(0)", x -> x.ways(0), Check.NONE);
        s.unchanged(() -> Check.sheet(many), "ways(-1)", x -> x.ways(-1), Check.INVALID);
    }
}

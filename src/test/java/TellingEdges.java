/** The edges that promises 13 to 18 name, argument by argument and answer by answer. */
final class TellingEdges {
    private final Check check;

    TellingEdges(Check check) {
        this.check = check;
    }

    void all() {
        plan();
        stepNumbers();
        stepPlaces();
        costWith();
        enough();
        proved();
        provedOfTen();
        ways();
        waysOfTen();
    }

    private Sentence promise(int number, String words) {
        return new Sentence(check, "Promise " + number, words);
    }

    private void plan() {
        Sentence s = promise(13, "`what`: 0 the number of its steps, 1 its cost, 2 the number of spills, 3 of loads of what "
                + "was stored, 4 the cost of the steps of kind 1");
        Sentence t = promise(13, "Returns it");
        LeastPlaces x = Check.sheet("A=a*b;A*!A-(a+7)");
        // a b * store | A A ! * a 7 + -, and with 2 places a spill and a load of it.
        int[] want = {12, 9 + 12 + 4, 0, 2, 3 + 1 + 3 + 1 + 1};
        int[] wantOfTwo = {14, 9 + 12 + 4 + 8, 1, 2, 9};
        for (int what = 0; what < 5; what++) {
            s.due("plan " + what, x.plan(what), want[what]);
        }
        x.setPlaces(2);
        for (int what = 0; what < 5; what++) {
            t.due("plan " + what + " with 2 places", x.plan(what), wantOfTwo[what]);
        }
        Sentence u = promise(13, "INVALID_ARGUMENT if what is out of range");
        for (int what : Check.outside(0, 4)) {
            u.refuses("plan " + what, y -> y.plan(what), Check.INVALID);
        }
    }

    private void stepNumbers() {
        Sentence s = promise(14, "`step`: 0 for the first one, and so on");
        Sentence t = promise(14, "INVALID_ARGUMENT if step is negative or what is out of range");
        Sentence u = promise(14, "NONE if there are not so many steps");
        LeastPlaces x = Check.sheet("a*!b");
        s.dueAll("nodes", Check.steps(x, 2), 1, 3, 2, 0);
        s.due("the last step", x.step(3, 2), 0);
        u.due("none behind it", x.step(4, 2), Check.NONE);
        s.due("the one step of a new object", new LeastPlaces().step(0, 0), 0);
        u.refuses("the step behind the last one", y -> y.step(y.plan(0), 0), Check.NONE);
        u.refuses("step 2147483647", y -> y.step(Integer.MAX_VALUE, 3), Check.NONE);
        t.refuses("step -1", y -> y.step(-1, 0), Check.INVALID);
        t.refuses("step -2147483648", y -> y.step(Integer.MIN_VALUE, 0), Check.INVALID);
        for (int what : Check.outside(0, 3)) {
            t.refuses("step 0, what " + what, y -> y.step(0, what), Check.INVALID);
            t.refuses("a step that there is not, what " + what, y -> y.step(999, what), Check.INVALID);
        }
    }

    private void stepPlaces() {
        Sentence s = promise(14, "`what`: 0 its kind, 1 its formula, 2 its node, 3 the number of places that hold a value that "
                + "is still needed behind the step (spilled and stored values not counted; 1 behind the last step, which "
                + "works out the result)");
        Sentence t = promise(14, "Returns it");
        LeastPlaces x = Check.sheet("A=a*b-c*d;A-!A");
        x.setPlaces(2);
        s.dueAll("kinds", Check.steps(x, 0), 0, 0, 1, 2, 0, 0, 1, 3, 1, 4, 5, 5, 1, 1);
        s.dueAll("formulas", Check.steps(x, 1), 0, 0, 0, 0, 0, 0, 0, 0, 0, 0, 1, 1, 1, 1);
        s.dueAll("nodes", Check.steps(x, 2), 2, 3, 1, 1, 5, 6, 4, 1, 0, 0, 1, 3, 2, 0);
        s.dueAll("places", Check.steps(x, 3), 1, 2, 1, 0, 1, 2, 1, 2, 1, 0, 1, 2, 2, 1);
        for (String text : new String[] {"7", "A=a*b;A", "!a", "a-b", "A=a*b;7", "A=a+b;A*A"}) {
            LeastPlaces y = Check.sheet(text);
            t.due("places behind the last step of " + text, y.step(y.plan(0) - 1, 3), 1);
        }
        LeastPlaces z = Check.sheet("A=a*b;7");
        t.due("places behind a store", z.step(3, 3), 0);
        t.due("places behind the next load", z.step(4, 3), 1);
    }

    private void costWith() {
        Sentence s = promise(15, "`places`: 2 to 8");
        Sentence t = promise(15, "Returns the cost");
        LeastPlaces x = Check.sheet("A=a+b;(A*A-A*A)*(A*A-A*A)");
        // 16 letters, 8 times "+", 4 and 1 times "*", 2 times "-"; pairs of 2, 3 and 4 are spilled with as many.
        int[] spills = {4 + 2 + 1, 2 + 1, 1, 0, 0, 0, 0};
        for (int places = 2; places <= 8; places++) {
            s.due("costWith " + places, x.costWith(places), 16 + 8 + 15 + 2 + 8 * spills[places - 2]);
            t.due("the places stay", x.count(3), 3);
            t.due("the plan stays", x.plan(1), 41 + 8 * 3);
        }
        x.setPlaces(8);
        t.due("the fewest from the most", x.costWith(2), 41 + 8 * 7);
        t.unchanged(() -> Check.sheet("a*b-c*d"), "costWith 2", y -> y.costWith(2), 19);
        Sentence u = promise(15, "INVALID_ARGUMENT if places is out of range");
        for (int places : Check.outside(2, 8)) {
            u.refuses("costWith " + places, y -> y.costWith(places), Check.INVALID);
        }
        u.refuses("costWith 0", y -> y.costWith(0), Check.INVALID);
    }

    private void enough() {
        Sentence s = promise(16, "Finds the smallest number of places, 2 to 8, with which the plan has no spill.");
        Sentence t = promise(16, "Returns the number");
        String[] texts = {"7", "!a", "a*b", "A=a*b;A-A", "a*b-c*d", "A=a*b-c*d;A", "A=a+b;A*A-A*A",
            "A=a+b;(A*A-A*A)*(A*A-A*A)", "A=a+b;B=(A*A-A*A)*(A*A-A*A);7"};
        int[] want = {2, 2, 2, 2, 3, 3, 4, 5, 5};
        for (int i = 0; i < texts.length; i++) {
            LeastPlaces x = Check.sheet(texts[i]);
            s.due(texts[i], x.enough(), want[i]);
            x.setPlaces(want[i]);
            s.due("spills of " + texts[i] + " with as many", x.plan(2), 0);
            if (want[i] > 2) {
                x.setPlaces(want[i] - 1);
                s.due("spills of " + texts[i] + " with one less", Math.min(1, x.plan(2)), 1);
            }
            t.due("whatever the places are", x.enough(), want[i]);
        }
        t.unchanged(Starts::full, "enough", LeastPlaces::enough, 3);
    }

    private void proved() {
        Sentence s = promise(17, "`formula`: a formula");
        Sentence t = promise(17, "INVALID_ARGUMENT if there is no such formula");
        Sentence u = promise(17, "Returns the number of places");
        LeastPlaces x = Check.sheet("A=1;B=a+b;C=B*B;D=C*C;E=!D;E-D*(B+B)");
        int[] want = {1, 2, 3, 2, 1, 3};
        for (int formula = 0; formula < 6; formula++) {
            s.due("proved " + formula, x.proved(formula), want[formula]);
        }
        s.due("proved 6", x.proved(6), Check.INVALID);
        for (int formula : Check.outside(0, 2)) {
            t.refuses("proved " + formula, y -> y.proved(formula), Check.INVALID);
        }
        t.unchanged(LeastPlaces::new, "proved 1 of a new object", y -> y.proved(1), Check.INVALID);
        u.due("a leaf", Check.sheet("a").proved(0), 1);
        u.due("\"!\"", Check.sheet("!!!!!!!!a").proved(0), 1);
        u.due("two leaves", Check.sheet("a*b").proved(0), 2);
        u.due("the right part first", Check.sheet("a*(b*(c*d))").proved(0), 2);
        u.due("with 8 places", eightPlaces("a*b-c*d").proved(0), 3);
    }

    private static LeastPlaces eightPlaces(String text) {
        LeastPlaces x = Check.sheet(text);
        x.setPlaces(8);
        return x;
    }

    private void provedOfTen() {
        Sentence s = promise(17, "It is tried only for expanded forms of at most 10 nodes with two parts.");
        Sentence t = promise(17, "NONE if there are more such nodes");
        s.due("10", Check.sheet("a" + "+a".repeat(10)).proved(0), 2);
        s.due("10 and \"!\"", Check.sheet("!!(!!a" + "+!a".repeat(4) + "*a".repeat(6) + ")").proved(0), 3);
        s.due("10 by expanding", Check.sheet("A=a-b;A" + "*A".repeat(4) + "*a").proved(1), 3);
        t.due("11", Check.sheet("a" + "+a".repeat(11)).proved(0), Check.NONE);
        t.due("11 below \"!\"", Check.sheet("!(a" + "+a".repeat(11) + ")").proved(0), Check.NONE);
        t.due("11 by expanding", Check.sheet("A=a-b;A" + "*A".repeat(5)).proved(1), Check.NONE);
        t.due("the most", Check.sheet("A=a+b;!A" + "*A".repeat(14)).proved(1), Check.NONE);
        t.due("another formula of that sheet", Check.sheet("A=a+b;!A" + "*A".repeat(14)).proved(0), 2);
        t.unchanged(() -> Check.sheet("a" + "*b".repeat(11)), "proved of 11", x -> x.proved(0), Check.NONE);
    }

    private void ways() {
        Sentence s = promise(18, "`formula`: a formula");
        Sentence t = promise(18, "INVALID_ARGUMENT if there is no such formula");
        Sentence u = promise(18, "Returns the number of ways (2 for each node with two parts, multiplied, are tried");
        LeastPlaces x = Check.sheet("A=1;B=a+b;C=B*B;D=C*C;E=!D;E-D*(B+B)");
        // In the last one D*(B+B) is first, and in it B+B, of which each order will do.
        int[] want = {1, 2, 8, 2, 1, 8};
        for (int formula = 0; formula < 6; formula++) {
            s.due("ways " + formula, x.ways(formula), want[formula]);
        }
        s.due("ways 6", x.ways(6), Check.INVALID);
        for (int formula : Check.outside(0, 2)) {
            t.refuses("ways " + formula, y -> y.ways(formula), Check.INVALID);
        }
        t.unchanged(LeastPlaces::new, "ways 1 of a new object", y -> y.ways(1), Check.INVALID);
        u.due("all 2 of 2", Check.sheet("a*b").ways(0), 2);
        u.due("2 of 4", Check.sheet("a*b*c").ways(0), 2);
        u.due("all 8 of 8", Check.sheet("a*b-c*d").ways(0), 8);
        u.due("all 128 of 128", Check.sheet("A=a+b;A*A-A*A").ways(1), 128);
        Sentence v = promise(18, "1 if there is no such node)");
        v.due("a number", Check.sheet("7").ways(0), 1);
        v.due("a letter below \"!\"", Check.sheet("!!a").ways(0), 1);
        v.due("a capital", Check.sheet("A=a*b;A").ways(1), 1);
        v.due("a cheap definition", Check.sheet("A=!b;A").ways(1), 1);
    }

    private void waysOfTen() {
        Sentence s = promise(18, "NONE if there are more than 10 such nodes");
        s.due("10", Check.sheet("a" + "+a".repeat(10)).ways(0), 2);
        s.due("10, 512 of 1024", Check.sheet("(a*b+c*d)*(e*f+g*h)-(1+2-3)").ways(0), 512);
        s.due("11", Check.sheet("a" + "+a".repeat(11)).ways(0), Check.NONE);
        s.due("11 by expanding", Check.sheet("A=a-b;A" + "*A".repeat(5)).ways(1), Check.NONE);
        s.unchanged(() -> Check.sheet("a" + "*b".repeat(11)), "ways of 11", x -> x.ways(0), Check.NONE);
    }
}

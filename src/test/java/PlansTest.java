import java.util.Arrays;

/** Promises 13 to 18: the calls that tell of plans. */
public final class PlansTest {
    private static final Check check = new Check();

    public static void main(String[] args) {
        plan();
        planErrors();
        steps();
        greaterNeedFirst();
        spills();
        placesGoDown();
        definitions();
        longest();
        stepErrors();
        costWith();
        enough();
        proved();
        ways();
        triedToTheLimit();
        nothingIsRecorded();
        check.end("PlansTest");
    }

    private static void plan() {
        duePlan("7", 3, 1, 1, 0, 0, 0);
        duePlan("!a", 3, 2, 2, 0, 0, 1);
        duePlan("a+b", 3, 3, 3, 0, 0, 1);
        duePlan("a*b", 3, 3, 5, 0, 0, 3);
        duePlan("A=a*b;A", 3, 5, 5 + 4 + 4, 0, 1, 3);
        duePlan("A=a*b;7", 3, 5, 5 + 4 + 1, 0, 0, 3);
        duePlan("A=a+b;A-A", 3, 7, 7, 0, 0, 3);
        duePlan("(a+b)*(c-d)", 3, 7, 9, 0, 0, 5);
        duePlan("(a+b)*(c-d)", 2, 9, 17, 1, 0, 5);
        duePlan("A=(a+b)*(c-d);B=A*A;B+A", 2, 9 + 1 + 3 + 1 + 3, 17 + 4 + 11 + 4 + 9, 1, 4, 9);
    }

    private static void duePlan(String text, int places, int... want) {
        LeastPlaces x = Check.sheet(text);
        x.setPlaces(places);
        for (int what = 0; what < want.length; what++) {
            check.due("promise 13: plan " + what + " of " + text + " with " + places, x.plan(what), want[what]);
        }
        check.due("promise 15: " + text + " with " + places, x.costWith(places), want[1]);
    }

    private static void planErrors() {
        LeastPlaces x = Check.sheet("a*b");
        for (int what : Check.outside(0, 4)) {
            check.due("promise 13: what " + what, x.plan(what), Check.INVALID);
        }
    }

    private static void dueSteps(LeastPlaces x, String name, int[]... want) {
        String[] whats = {"kinds", "formulas", "nodes", "held"};
        for (int what = 0; what < 4; what++) {
            check.dueAll("promise 14: " + name + ", " + whats[what], Check.steps(x, what), want[what]);
        }
    }

    private static int[] row(int... numbers) {
        return numbers;
    }

    private static void steps() {
        dueSteps(new LeastPlaces(), "a new object", row(0), row(0), row(0), row(1));
        dueSteps(Check.sheet("!a"), "!", row(0, 1), row(0, 0), row(1, 0), row(1, 1));
        dueSteps(Check.sheet("a-b"), "two leaves", row(0, 0, 1), row(0, 0, 0), row(1, 2, 0), row(1, 2, 1));
        dueSteps(Check.sheet("!a-!b"), "like needs", row(0, 1, 0, 1, 1), row(0, 0, 0, 0, 0),
                row(2, 1, 4, 3, 0), row(1, 1, 2, 2, 1));
    }

    private static void greaterNeedFirst() {
        dueSteps(Check.sheet("a-(b+c)"), "the right part first", row(0, 0, 1, 0, 1), row(0, 0, 0, 0, 0),
                row(3, 4, 2, 1, 0), row(1, 2, 1, 2, 1));
        dueSteps(Check.sheet("(b+c)-a"), "the left part first", row(0, 0, 1, 0, 1), row(0, 0, 0, 0, 0),
                row(2, 3, 1, 4, 0), row(1, 2, 1, 2, 1));
    }

    private static void spills() {
        LeastPlaces x = Check.sheet("(a+b)*(c-d)");
        x.setPlaces(2);
        dueSteps(x, "a spill", row(0, 0, 1, 2, 0, 0, 1, 3, 1), row(0, 0, 0, 0, 0, 0, 0, 0, 0),
                row(2, 3, 1, 1, 5, 6, 4, 1, 0), row(1, 2, 1, 0, 1, 2, 1, 2, 1));
        LeastPlaces y = Check.sheet("e+(a+b)*(c-d)");
        y.setPlaces(2);
        dueSteps(y, "a spill in the right part", row(0, 0, 1, 2, 0, 0, 1, 3, 1, 0, 1), new int[11],
                row(4, 5, 3, 3, 7, 8, 6, 3, 2, 1, 0), row(1, 2, 1, 0, 1, 2, 1, 2, 1, 2, 1));
        LeastPlaces z = Check.sheet("e-f-((a+b)*(c-d))");
        z.setPlaces(2);
        dueSteps(z, "the right part's value spilled", row(0, 0, 1, 2, 0, 0, 1, 3, 1, 2, 0, 0, 1, 3, 1),
                new int[15], row(6, 7, 5, 5, 9, 10, 8, 5, 4, 4, 2, 3, 1, 4, 0),
                row(1, 2, 1, 0, 1, 2, 1, 2, 1, 0, 1, 2, 1, 2, 1));
    }

    // Both outer parts need 3; with 3 places the second one has only a spill's room, with 4 it has 3.
    private static void placesGoDown() {
        String part = "(a+b)*(c+d)";
        LeastPlaces x = Check.sheet(part + "-" + part);
        int[] spills = {3, 1, 0, 0, 0, 0, 0};
        for (int places = 2; places <= 8; places++) {
            x.setPlaces(places);
            check.due("promise 13: spills with " + places, x.plan(2), spills[places - 2]);
            check.due("promise 15: cost with " + places, x.costWith(places), 8 + 4 + 6 + 1 + 8 * spills[places - 2]);
        }
        x.setPlaces(3);
        check.dueAll("promise 14: the one spill", Check.steps(x, 0),
                0, 0, 1, 0, 0, 1, 1, 2, 0, 0, 1, 0, 0, 1, 1, 3, 1);
        check.due("promise 14: the most that is held", max(Check.steps(x, 3)), 3);
        x.setPlaces(4);
        check.due("promise 14: the most that is held", max(Check.steps(x, 3)), 4);
    }

    private static int max(int[] numbers) {
        return Arrays.stream(numbers).max().getAsInt();
    }

    private static void definitions() {
        LeastPlaces x = Check.sheet("A=a*b;B=1;C=!A*B;A-C");
        dueSteps(x, "definitions", row(0, 0, 1, 4, 5, 1, 0, 1, 4, 5, 5, 1),
                row(0, 0, 0, 0, 2, 2, 2, 2, 2, 3, 3, 3), row(1, 2, 0, 0, 2, 1, 3, 0, 0, 1, 2, 0),
                row(1, 2, 1, 0, 1, 1, 2, 1, 0, 1, 2, 1));
        check.due("promise 13: loads of what was stored", x.plan(3), 3);
        check.due("promise 13: cost", x.plan(1), 5 + 4 + (4 + 1 + 1 + 3) + 4 + 9);
    }

    // 100 characters; with 2 places each "*" spills its left part, with 3 places none does.
    private static void longest() {
        String text = "A=a+b;B=!A" + "*A".repeat(14) + ";C=!A" + "*A".repeat(14) + ";!A" + "*A".repeat(13);
        check.due("a text of 100 characters", text.length(), 100);
        LeastPlaces x = Check.sheet(text);
        int definition = 15 * 3 + 14 + 1;
        int result = 14 * 3 + 13 + 1;
        int price = 15 * 3 + 14 * 3 + 1;
        check.due("promise 13: steps with 3 places", x.plan(0), 2 * (definition + 1) + result);
        check.due("promise 13: cost with 3 places", x.plan(1), 2 * (price + 4) + price - 6);
        x.setPlaces(2);
        int steps = 2 * (definition + 14 * 2 + 1) + result + 13 * 2;
        check.due("promise 13: steps with 2 places", x.plan(0), steps);
        check.due("promise 13: cost with 2 places", x.plan(1), 2 * (price + 4) + price - 6 + (14 + 14 + 13) * 8);
        check.due("promise 13: spills with 2 places", x.plan(2), 14 + 14 + 13);
        check.due("promise 14: none behind the last step", x.step(steps, 0), Check.NONE);
        check.due("promise 14: none behind the last step", x.step(steps, 3), Check.NONE);
        int[] last = {1, 3, 0, 1};
        for (int what = 0; what < 4; what++) {
            check.due("promise 14: the last step, " + what, x.step(steps - 1, what), last[what]);
            check.due("promise 14: the last store, " + what, x.step(steps - result - 26 - 1, what),
                    new int[] {4, 2, 0, 0}[what]);
        }
        int[] kinds = Check.steps(x, 0);
        check.due("promise 14: spills", Arrays.stream(kinds).filter(kind -> kind == 2).count(), 14 + 14 + 13);
        check.due("promise 14: loads of them", Arrays.stream(kinds).filter(kind -> kind == 3).count(), 14 + 14 + 13);
    }

    private static void stepErrors() {
        LeastPlaces x = Check.sheet("a+b");
        check.due("promise 14: behind the last", x.step(3, 0), Check.NONE);
        check.due("promise 14: far behind", x.step(Integer.MAX_VALUE, 3), Check.NONE);
        check.due("promise 14: negative", x.step(-1, 0), Check.INVALID);
        check.due("promise 14: negative", x.step(Integer.MIN_VALUE, 0), Check.INVALID);
        for (int what : Check.outside(0, 3)) {
            check.due("promise 14: what " + what, x.step(0, what), Check.INVALID);
            check.due("promise 14: first the argument, " + what, x.step(3, what), Check.INVALID);
        }
    }

    private static void costWith() {
        LeastPlaces x = Check.sheet("(a+b)*(c-d)");
        x.setPlaces(8);
        check.due("promise 15: fewest", x.costWith(2), 17);
        check.due("promise 15: most", x.costWith(8), 9);
        check.due("promise 15: the places stay", x.count(3), 8);
        check.due("promise 15: the plan stays", x.plan(1), 9);
        check.due("promise 15: the plan's steps stay", x.step(7, 0), Check.NONE);
        for (int places : Check.outside(2, 8)) {
            check.due("promise 15: places " + places, x.costWith(places), Check.INVALID);
        }
    }

    private static void enough() {
        dueEnough("a", 2);
        dueEnough("a+b", 2);
        dueEnough("(a+b)*(c+d)", 3);
        dueEnough("A=(a+b)*(c+d);A", 3);
        dueEnough("A=(a+b)*(c+d);B=A-A;B", 3);
        dueEnough("(a+b)*(c+d)-(a+b)*(c+d)", 4);
        dueEnough("A=a+b;(A*A-A*A)*(A*A-A*A)", 5);
        dueEnough("A=a+b;7", 2);
    }

    private static void dueEnough(String text, int places) {
        LeastPlaces x = Check.sheet(text);
        x.setPlaces(2);
        check.due("promise 16: " + text, x.enough(), places);
        check.due("promise 16: the places stay", x.count(3), 2);
    }

    private static void proved() {
        dueProof("7", 1, 1);
        dueProof("!!a", 1, 1);
        dueProof("a+b", 2, 2);
        dueProof("a+b+c", 2, 2);
        dueProof("a-(b-c)", 2, 2);
        dueProof("!(a+b)*c", 2, 2);
        dueProof("(a+b)*(c+d)", 3, 8);
        dueProof("(a+b)*(c+d)+e", 3, 8);
        dueProof("a+b+c+d+e", 2, 2);
        LeastPlaces x = Check.sheet("A=a+b;B=A*c;B-A*A");
        check.due("promise 17: a cheap definition", x.proved(0), 2);
        check.due("promise 17: an expanded form", x.proved(1), 2);
        check.due("promise 17: a capital is a leaf", x.proved(2), 3);
        check.due("promise 18: a cheap definition", x.ways(0), 2);
        check.due("promise 18: an expanded form", x.ways(1), 2);
        check.due("promise 18: a capital is a leaf", x.ways(2), 8);
    }

    private static void dueProof(String text, int places, int ways) {
        LeastPlaces x = Check.sheet(text);
        check.due("promise 17: " + text, x.proved(0), places);
        check.due("promise 18: " + text, x.ways(0), ways);
        check.due("promise 17: not by the places that there are", x.setPlaces(8), 3);
        check.due("promise 17: not by the places that there are", x.proved(0), places);
    }

    private static void ways() {
        LeastPlaces x = Check.sheet("A=1;A+A");
        for (int formula : Check.outside(0, 1)) {
            check.due("promise 17: formula " + formula, x.proved(formula), Check.INVALID);
            check.due("promise 18: formula " + formula, x.ways(formula), Check.INVALID);
        }
    }

    private static void triedToTheLimit() {
        dueProof("a" + "+a".repeat(10), 2, 2);
        dueProof("a" + "+a".repeat(11), Check.NONE, Check.NONE);
        dueProof("!(a" + "+a".repeat(11) + ")", Check.NONE, Check.NONE);
        LeastPlaces x = Check.sheet("A=a+b;B=a+A+A+A+A+A;A+A+A+A+A+A");
        check.due("promise 17: 10 pairs of the expanded form", x.proved(1), 3);
        check.due("promise 17: 11 pairs of the expanded form", x.proved(2), Check.NONE);
        check.due("promise 18: 11 pairs of the expanded form", x.ways(2), Check.NONE);
        LeastPlaces y = Check.sheet("(a*b+c*d)*(e*f+g*h)-(1+2-3)");
        check.due("promise 17: 10 pairs", y.proved(0), 4);
        check.due("promise 18: 10 pairs", y.ways(0), 512);
    }

    private static void nothingIsRecorded() {
        LeastPlaces x = Check.sheet("(a+b)*(c+d)");
        x.plan(1);
        x.step(2, 0);
        x.costWith(2);
        x.enough();
        x.proved(0);
        x.ways(0);
        check.due("looking is no action", x.count(5), 1);
    }
}

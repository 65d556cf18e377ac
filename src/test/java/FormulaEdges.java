/** The edges that "Terms" names for values and for the texts that formulas are read from. */
final class FormulaEdges {
    private static final String LEAVES = "0123456789abcdefgh";
    private static final String NESTED = "(!";
    private static final String OPERATIONS = "+-*";

    private final Check check;

    FormulaEdges(Check check) {
        this.check = check;
    }

    void all() {
        greatestValues();
        valuesAtEachNode();
        definitions();
        numbering();
        capitalsOfDefinitions();
        capitalsInFormulas();
        digits();
        letters();
        otherSigns();
        nestingTogether();
        nestingByItself();
        nestingEnds();
        nodes();
        nodesOfEachFormula();
        characters();
        firstFailure();
        digitTooMany();
        nestedTooDeep();
        node31();
        missing();
        brackets();
        opposites();
        leftToRight();
    }

    private Sentence formulas(String words) {
        return new Sentence(check, "Formulas", words);
    }

    private static String sum(int leaves) {
        return "a" + "+a".repeat(leaves - 1);
    }

    // ---- values

    private void greatestValues() {
        Sentence s = new Sentence(check, "Terms", "Values are -99999 to 99999; a value beyond that becomes the nearest");
        s.dueValue("999*100+98", 99998);
        s.dueValue("999*100+99", 99999);
        s.dueValue("999*100+100", 99999);
        s.dueValue("!(999*100)-98", -99998);
        s.dueValue("!(999*100)-99", -99999);
        s.dueValue("!(999*100)-100", -99999);
        s.dueValue("271*369", 99999);
        s.dueValue("625*160", 99999);
        s.dueValue("!271*369", -99999);
        s.dueValue("!625*160", -99999);
        s.dueValue("A=999*999;A*A", 99999);
        s.dueValue("A=999*999;A*!A", -99999);
        s.dueValue("A=999*999;!A*!A", 99999);
        s.dueValue("A=999*999;A+A", 99999);
        s.dueValue("A=999*999;!A-A", -99999);
        s.dueValue("A=999*999;A-!A", 99999);
        LeastPlaces x = Check.sheet("a*b");
        x.setCell(0, -999);
        x.setCell(1, 999);
        s.due("cells of -999 and 999", x.formula(0, 4), -99999);
        x.setCell(1, -999);
        s.due("cells of -999", x.formula(0, 4), 99999);
    }

    private void valuesAtEachNode() {
        Sentence s = new Sentence(check, "Terms", "a value beyond that becomes the nearest of these, at each node.");
        LeastPlaces x = Check.sheet("!(999*100+100)+1-999*999");
        s.dueAll("of a node", Check.nodes(x, 0, 6), -99999, -99998, -99999, 99999, 99900, 999, 100, 100, 1,
                99999, 999, 999);
        LeastPlaces y = Check.sheet("A=999*999;B=A+A;C=B-1;C-A");
        s.dueAll("of a node that is a capital", Check.nodes(y, 3, 6), -1, 99998, 99999);
        s.due("of a definition", y.formula(1, 4), 99999);
        LeastPlaces z = Check.sheet("A=a+b;A*A-1");
        z.setCell(0, 999);
        z.setCell(1, 999);
        s.dueAll("with a cheap definition", Check.nodes(z, 1, 6), 99998, 99999, 1998, 999, 999, 1998, 999, 999, 1);
    }

    private void opposites() {
        Sentence s = formulas("\"!\" makes a value the other one of its sign (0 less the value)");
        s.dueValue("!0", 0);
        s.dueValue("!1", -1);
        s.dueValue("!!1", 1);
        s.dueValue("!(999*999)", -99999);
        s.dueValue("!!(999*999)", 99999);
    }

    private void leftToRight() {
        Sentence s = formulas("Operations of the same line are done from left to right.");
        s.dueValue("9-4-3", 2);
        s.dueValue("9-4+3", 8);
        s.dueValue("999*101-999*101+1", 1);
        s.dueValue("1-999*101-999*101", -99999);
        LeastPlaces x = Check.sheet("a*b*c");
        s.dueAll("a*b*c", Check.nodes(x, 0, 5), 5, 3, 1, 1, 1);
    }

    // ---- definitions and capitals

    /** So many definitions, A=1 and so on, each of 4 signs. */
    private static String ahead(int definitions) {
        StringBuilder text = new StringBuilder();
        for (int i = 0; i < definitions; i++) {
            text.append((char) ('A' + i)).append('=').append(i + 1).append(';');
        }
        return text.toString();
    }

    private void definitions() {
        Sentence s = formulas("A sheet has up to 5 definitions and a result");
        for (int i = 0; i <= 5; i++) {
            LeastPlaces x = s.reads(ahead(i) + "9", i + 1);
            s.due("formulas", x.count(0), i + 1);
        }
        s.fails(ahead(6) + "9", 20);
        s.fails(ahead(5) + "E=6;9", 21);
        s.fails(ahead(5), 20);
    }

    private void numbering() {
        Sentence s = formulas("which are formulas, numbered from 0 in their order, the result being the last one");
        for (int i = 0; i <= 5; i++) {
            LeastPlaces x = s.reads(ahead(i) + "9", i + 1);
            for (int formula = 0; formula < i; formula++) {
                s.due("value of formula " + formula, x.formula(formula, 4), formula + 1);
            }
            s.due("value of the result", x.formula(i, 4), 9);
            s.due("no formula behind the result", x.formula(i + 1, 4), Check.INVALID);
            s.due("no formula ahead of 0", x.formula(-1, 4), Check.INVALID);
        }
    }

    private void capitalsOfDefinitions() {
        Sentence s = formulas("The capital of the first definition is A, that of the second one B, and so on to E");
        for (int i = 0; i < 5; i++) {
            for (char capital = 'A'; capital <= 'Z'; capital++) {
                String text = ahead(i) + capital + "=7;8";
                if (capital == 'A' + i) {
                    s.reads(text, i + 2);
                } else {
                    s.fails(text, 4 * i + (capital < 'A' + i ? 1 : 0));
                }
            }
        }
    }

    private void capitalsInFormulas() {
        Sentence s = formulas("in a formula a capital can stand only if its definition is ahead of this formula");
        for (int i = 0; i <= 5; i++) {
            for (char capital = 'A'; capital <= 'Z'; capital++) {
                boolean stands = capital < 'A' + i;
                if (i < 5) {
                    dueCapital(s, ahead(i) + (char) ('A' + i) + "=" + capital + ";7", stands, i + 2, 4 * i + 2);
                }
                dueCapital(s, ahead(i) + "7-" + capital, stands, i + 1, 4 * i + 2);
            }
        }
        LeastPlaces x = s.reads(ahead(5) + "E", 6);
        s.due("value of E", x.formula(5, 4), 5);
    }

    private static void dueCapital(Sentence s, String text, boolean stands, int formulas, int place) {
        if (stands) {
            s.reads(text, formulas);
        } else {
            s.fails(text, place);
        }
    }

    // ---- leaves and other signs

    private void digits() {
        Sentence s = formulas("A number is 1 to 3 digits, the first of several not 0");
        for (int number = 0; number <= 999; number++) {
            LeastPlaces x = s.reads("" + number, 1);
            s.due("number " + number, x.node(0, 0, 1), number);
        }
        s.fails("1000", 3);
        s.fails("9999", 3);
        s.fails("12345", 3);
        s.fails("999+1000", 7);
        for (int digit = 0; digit <= 9; digit++) {
            s.fails("0" + digit, 1);
            s.fails("a+0" + digit + "1", 3);
            s.fails("A=0" + digit + ";1", 3);
        }
        s.fails("", 0);
        s.reads("0+0", 1);
    }

    private void letters() {
        Sentence s = formulas("a letter is a to h, one of 8 cells");
        for (int cell = 0; cell < 8; cell++) {
            LeastPlaces x = s.reads("" + (char) ('a' + cell), 1);
            x.setCell(cell, 10 + cell);
            s.due("kind", x.node(0, 0, 0), 1);
            s.due("cell", x.node(0, 0, 1), cell);
            s.due("value", x.formula(0, 4), 10 + cell);
        }
        s.fails("`", 0);
        for (char letter = 'i'; letter <= 'z'; letter++) {
            s.fails("a+" + letter, 2);
        }
    }

    private void otherSigns() {
        Sentence s = formulas("Nothing else may stand in a text, no spaces either");
        dueSigns(s, "", 1, LEAVES, NESTED + "A");
        dueSigns(s, "a", 1, "", OPERATIONS);
        dueSigns(s, "0", 1, "", OPERATIONS);
        dueSigns(s, "12", 1, "0123456789", OPERATIONS);
        dueSigns(s, "123", 1, "", OPERATIONS);
        dueSigns(s, "a+", 1, LEAVES, NESTED);
        dueSigns(s, "a-", 1, LEAVES, NESTED);
        dueSigns(s, "a*", 1, LEAVES, NESTED);
        dueSigns(s, "!", 1, LEAVES, NESTED);
        dueSigns(s, "(", 1, "", LEAVES + NESTED);
        dueSigns(s, "(a", 1, ")", OPERATIONS);
        dueSigns(s, "(a)", 1, "", OPERATIONS);
        dueSigns(s, "A", 1, "", "=");
        dueSigns(s, "A=", 1, "", LEAVES + NESTED);
        dueSigns(s, "A=a", 1, "", OPERATIONS + ";");
        dueSigns(s, "A=(a", 1, "", OPERATIONS + ")");
        dueSigns(s, "A=a;", 2, LEAVES + "A", NESTED + "B");
        dueSigns(s, "A=a;A", 2, "", OPERATIONS);
        dueSigns(s, "A=a;B", 2, "", "=");
        dueSigns(s, "A=a;B=", 2, "", LEAVES + NESTED + "A");
    }

    /** Each sign behind a text completes it, or lets it go on, or can't stand there. */
    private static void dueSigns(Sentence s, String text, int formulas, String ends, String goesOn) {
        for (char sign = 1; sign <= 255; sign++) {
            LeastPlaces x = new LeastPlaces();
            int place = text.length() + (goesOn.indexOf(sign) >= 0 ? 1 : 0);
            int want = ends.indexOf(sign) >= 0 ? formulas : -1000 - place;
            s.due("read of " + text + " and character " + (int) sign, Check.readText(x, text + sign), want);
        }
        s.fails(text + " ", text.length());
    }

    // ---- nesting

    private static String closed(String nesting) {
        StringBuilder text = new StringBuilder(nesting).append('a');
        for (int i = 0; i < nesting.length(); i++) {
            text.append(nesting.charAt(i) == '(' ? ")" : "");
        }
        return text.toString();
    }

    /** One of the 256 ways to choose 8 signs. */
    private static String eight(int choice) {
        StringBuilder text = new StringBuilder();
        for (int i = 0; i < 8; i++) {
            text.append(NESTED.charAt(choice >> i & 1));
        }
        return text.toString();
    }

    private void nestingTogether() {
        Sentence s = formulas("\"(\" and \"!\" are nested at most 8 deep together");
        for (int choice = 0; choice < 256; choice++) {
            s.reads(closed(eight(choice)), 1);
            s.fails(closed(eight(choice) + "("), 8);
            s.fails(closed(eight(choice) + "!"), 8);
        }
    }

    private void nestingByItself() {
        Sentence s = formulas("nested at most 8 deep together, in each formula by itself");
        for (int deeper = -1; deeper < 6; deeper++) {
            StringBuilder text = new StringBuilder();
            int place = -1;
            for (int i = 0; i < 6; i++) {
                text.append(i < 5 ? (char) ('A' + i) + "=" : "");
                place = i == deeper ? text.length() + 8 : place;
                text.append("!".repeat(i == deeper ? 9 : 8)).append('a');
                text.append(i < 5 ? ";" : "");
            }
            if (deeper < 0) {
                s.reads(text.toString(), 6);
            } else {
                s.fails(text.toString(), place);
            }
        }
        s.reads("A=((((((((a))))))));B=((((((((A))))))));((((((((B))))))))", 3);
        s.fails("A=((((((((a))))))));B=((((((((A))))))));(((((((((B)))))))))", 48);
    }

    // A bracket's depth ends with it, that of a "!" with its factor.
    private void nestingEnds() {
        Sentence s = formulas("are nested at most 8 deep");
        s.reads("((((((((a))))))))*((((((((b))))))))", 1);
        s.reads("!!!!!!!!a*!!!!!!!!b", 1);
        s.reads("((((((((a)+(b))))))))", 1);
        s.fails("((((((((a)+((b)))))))))", 12);
        s.reads("(((((((!a*!b)))))))", 1);
        s.fails("(((((((!a*!!b)))))))", 11);
        s.fails("(((((((!a*!(b))))))))", 11);
        s.reads("!!!!!!!(a)+!!!!!!!(b)", 1);
    }

    private void nestedTooDeep() {
        Sentence s = formulas("a sign that is nested too deep");
        s.fails("!!!!!!!!!", 8);
        s.fails("(((((((((", 8);
        s.fails("a+!!!!!!!!!a", 10);
        s.fails("A=!!!!!!!!!a;1", 10);
        s.fails("!!!!!!!!", 8);
        s.reads("!!!!!!!!1", 1);
    }

    // ---- nodes and characters

    private void nodes() {
        Sentence s = formulas("A formula has at most 30 nodes");
        s.due("29 nodes", s.reads(sum(15), 1).formula(0, 0), 29);
        s.due("30 nodes", s.reads("!" + sum(15), 1).formula(0, 0), 30);
        s.due("30 nodes, the last one below a \"!\"", s.reads(sum(14) + "-!a", 1).formula(0, 0), 30);
        s.due("30 nodes in brackets", s.reads("!((" + sum(15) + "))", 1).formula(0, 0), 30);
        s.fails("!" + sum(15) + "+a", 30);
        s.fails(sum(16), 30);
        LeastPlaces x = s.reads("A=a+b;!A" + "*A".repeat(14), 2);
        s.due("30 nodes as read", x.formula(1, 0), 30);
        s.due("60 nodes of the expanded form", x.formula(1, 1), 60);
    }

    private void nodesOfEachFormula() {
        Sentence s = formulas("A formula has at most 30 nodes");
        String most = "!" + sum(15);
        s.due("three of 30", s.reads("A=" + most + ";B=" + most + ";" + most, 3).count(2), 90);
        s.fails("A=" + most + "+a;1", 32);
        s.fails("A=" + most + ";B=" + most + "*a;1", 65);
        s.fails("A=" + most + ";B=1;" + most + "-a", 67);
    }

    private void characters() {
        Sentence s = formulas("a text at most 100 characters");
        LeastPlaces x = s.reads(hundred(), 3);
        s.due("its length", x.count(6), 100);
        s.due("one more", x.append('+'), Check.FULL);
        s.due("its length", x.count(6), 100);
        s.due("read once more", x.read(), 3);
        s.fails(hundred().substring(0, 99) + ";", 99);
        s.fails(hundred().substring(0, 99) + "(", 99);
        s.fails(hundredUnclosed(), 100);
    }

    /** A text of 100 signs that can be read, the last one being a bracket that is closed. */
    static String hundred() {
        return "A=!" + sum(15) + ";B=!" + sum(15) + ";!((" + sum(15) + "))";
    }

    /** A text of 100 signs, the last one being a bracket that is closed, that lacks one more. */
    static String hundredUnclosed() {
        return "A=!" + sum(15) + ";B=" + sum(15) + ";!(((" + sum(15) + "))";
    }

    private void node31() {
        Sentence s = formulas("the first character of a leaf, a \"!\", or an operation that would be the 31st node of its formula");
        for (String leaf : new String[] {"a", "h", "0", "7", "123", "1234"}) {
            s.fails(sum(15) + "+" + leaf, 30);
            s.fails("A=" + sum(15) + "+" + leaf + ";1", 32);
        }
        s.fails("A=1;" + sum(15) + "*A", 34);
        s.fails(sum(15) + "-!a", 30);
        s.fails("!!" + sum(14) + "*!a", 30);
        for (int i = 0; i < 3; i++) {
            String operation = OPERATIONS.substring(i, i + 1);
            s.fails("!" + sum(15) + operation, 30);
            s.fails("!" + sum(15) + operation + "a", 30);
            s.fails("!(" + sum(15) + ")" + operation + "a", 32);
            s.fails("A=1;" + "!" + sum(15) + operation + "A", 34);
        }
        s.fails("!!" + sum(14) + "+a", 30);
        s.fails("(" + sum(15) + "+a)", 31);
        s.fails("(" + sum(15) + "+)", 31);
        s.fails("A=" + sum(15) + "+;1", 32);
    }

    // ---- where a text fails

    private void firstFailure() {
        Sentence s = formulas("A text fails at the first character that is not allowed where it stands");
        s.fails("1++2)", 2);
        s.fails("ab(", 1);
        s.fails("(1234+00", 4);
        s.fails(")a", 0);
        s.fails("a)+(", 1);
        s.fails("A=1;2;", 5);
        s.fails("A=1;B=C;D", 6);
        s.fails("00+1234", 1);
        s.fails("!!!!!!!!!00", 8);
        s.fails("a\u00ff ", 1);
        s.fails("a=1;b", 1);
    }

    private void digitTooMany() {
        Sentence s = formulas("a digit too many, be it one behind a 0");
        s.reads("123", 1);
        s.fails("1234", 3);
        s.fails("12345)", 3);
        s.reads("0", 1);
        s.fails("00", 1);
        s.fails("05", 1);
        s.fails("!(0-0000)", 5);
        s.fails("A=100;A*1000", 11);
    }

    // The result begins behind 16 signs; it could end behind the bracket, and ends with the text.
    private void missing() {
        Sentence s = formulas("or at its length if it ends where something is missing");
        String text = "A=!(a+12)*b;B=A;(A-2)*!B";
        for (int length = 0; length <= text.length(); length++) {
            if (length == 21 || length == 24) {
                s.reads(text.substring(0, length), 3);
            } else {
                s.fails(text.substring(0, length), length);
            }
        }
        s.fails(sum(15) + "+", 30);
        s.fails("A=" + sum(15) + "+", 32);
        s.fails("!".repeat(8), 8);
        LeastPlaces x = Check.sheet("7");
        s.due("a+", Check.readText(x, "a+"), -1002);
        x.append('b');
        s.due("a+ with b put to it", x.read(), 1);
    }

    private void brackets() {
        Sentence s = formulas("A bracket is no node.");
        s.due("((((((((a))))))))", Check.sheet("((((((((a))))))))").formula(0, 0), 1);
        s.due("(a+b)*(c)", Check.sheet("(a+b)*(c)").formula(0, 0), 5);
        s.due("!(!(a))", Check.sheet("!(!(a))").formula(0, 0), 3);
        s.due("(" + sum(15) + ")", Check.sheet("(" + sum(15) + ")").formula(0, 0), 29);
        s.fails("(" + sum(15) + ")+(a)", 33);
    }
}

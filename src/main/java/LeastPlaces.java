/** Formulas that are worked out with few places; ../shared/DOC.md says what each call does. */
public final class LeastPlaces {
    public static final int INVALID_ARGUMENT = -1000001;
    public static final int ILLEGAL_STATE = -1000002;
    public static final int CAPACITY_EXCEEDED = -1000003;
    public static final int NONE = -1000009;

    private static final int TEXT_LIMIT = 100;
    private static final int HIGHEST_CHARACTER = 255;
    private static final int DEFINITIONS = 5;
    private static final int FORMULAS = DEFINITIONS + 1;
    private static final int READ_NODES = 30;
    // Of 30 nodes at most 15 are leaves, and each of these can become 3 nodes.
    private static final int EXPANDED_NODES = 60;
    // The deepest form has 21 levels: 11 operations, 7 times "!", and "!!a" for a capital.
    private static final int LEVELS = 40;
    private static final int NESTING = 8;
    private static final int DIGITS = 3;
    private static final int CHEAP_NODES = 3;
    private static final int CELLS = 8;
    private static final int CELL_LIMIT = 999;
    private static final int VALUE_LIMIT = 99999;
    private static final int FEWEST_PLACES = 2;
    private static final int MOST_PLACES = 8;
    private static final int FIRST_PLACES = 3;
    private static final int STATES = 5;
    private static final int TRIED_PAIRS = 10;
    private static final int FAILURE = -1000;

    // Characters are 1 to 255, so that 0 is free to stand for the end of the text.
    private static final int END = 0;

    private static final int NUMBER = 0;
    private static final int LETTER = 1;
    private static final int CAPITAL = 2;
    private static final int OPPOSITE = 3;
    private static final int PLUS = 4;
    private static final int MINUS = 5;
    private static final int TIMES = 6;

    private static final int LOAD = 0;
    private static final int OPERATION = 1;
    private static final int SPILL = 2;
    private static final int RELOAD = 3;
    private static final int STORE = 4;
    private static final int FETCH = 5;

    private static final int CHEAP_STEP = 1;
    private static final int TIMES_STEP = 3;
    private static final int MEMORY_STEP = 4;

    private final Reader reader = new Reader();
    private final Sheet sheet = new Sheet();
    private final Sheet[] history = new Sheet[STATES];
    private int states;
    private final Expanded[] expanded = new Expanded[FORMULAS];
    private final Plan steps = new Plan();
    private final Trial trial = new Trial();

    public LeastPlaces() {
        for (int i = 0; i < history.length; i++) {
            history[i] = new Sheet();
        }
        for (int i = 0; i < expanded.length; i++) {
            expanded[i] = new Expanded(i);
        }
    }

    // ---- sheets

    public int append(int character) {
        if (character < 1 || character > HIGHEST_CHARACTER) {
            return INVALID_ARGUMENT;
        }
        return reader.take(character) ? reader.length : CAPACITY_EXCEEDED;
    }

    public int clearText() {
        int before = reader.length;
        reader.length = 0;
        return before;
    }

    public int read() {
        if (!reader.readSheet()) {
            return FAILURE - reader.place;
        }
        recordState();
        sheet.copyFormulas(reader.draft);
        workAnew();
        return sheet.formulas;
    }

    public int turn(int formula, int node) {
        if (!isFormula(formula) || !sheet.forms[formula].has(node)) {
            return INVALID_ARGUMENT;
        }
        int kind = sheet.forms[formula].kindOf(node);
        if (kind != PLUS && kind != TIMES) {
            return ILLEGAL_STATE;
        }
        recordState();
        sheet.forms[formula].exchange(node);
        workAnew();
        return expanded[formula].needOf(0);
    }

    public int setCell(int cell, int value) {
        if (!isCell(cell) || value < -CELL_LIMIT || value > CELL_LIMIT) {
            return INVALID_ARGUMENT;
        }
        recordState();
        int before = sheet.cells[cell];
        sheet.cells[cell] = value;
        workAnew();
        return before;
    }

    public int setPlaces(int places) {
        if (!arePlaces(places)) {
            return INVALID_ARGUMENT;
        }
        recordState();
        int before = sheet.places;
        sheet.places = places;
        return before;
    }

    public int undo() {
        if (states < 1 || states > history.length) {
            return ILLEGAL_STATE;
        }
        states--;
        sheet.copyState(history[states]);
        workAnew();
        return states;
    }

    // ---- looking

    public int count(int what) {
        switch (what) {
            case 0:
                return sheet.formulas;
            case 1:
                return cheapDefinitions();
            case 2:
                return nodesAsRead();
            case 3:
                return sheet.places;
            case 4:
                return greatestNeed();
            case 5:
                return states;
            case 6:
                return reader.length;
            default:
                return INVALID_ARGUMENT;
        }
    }

    public int formula(int formula, int what) {
        if (!isFormula(formula)) {
            return INVALID_ARGUMENT;
        }
        Expanded form = expanded[formula];
        switch (what) {
            case 0:
                return sheet.forms[formula].size;
            case 1:
                return form.nodes.size;
            case 2:
                return form.needOf(0);
            case 3:
                return form.cheap ? 1 : 0;
            case 4:
                return form.valueOf(0);
            case 5:
                return form.depthOf(0);
            case 6:
                return usesOf(formula);
            default:
                return INVALID_ARGUMENT;
        }
    }

    public int node(int formula, int node, int what) {
        if (!isFormula(formula) || !expanded[formula].nodes.has(node)) {
            return INVALID_ARGUMENT;
        }
        Expanded form = expanded[formula];
        int parts = partsOf(form.nodes.kindOf(node));
        switch (what) {
            case 0:
                return form.nodes.kindOf(node);
            case 1:
                return parts == 0 ? form.nodes.contentOf(node) : NONE;
            case 2:
                return parts > 0 ? node + 1 : NONE;
            case 3:
                return parts > 1 ? form.rightOf(node) : NONE;
            case 4:
                return form.needOf(node);
            case 5:
                return form.sizeOf(node);
            case 6:
                return form.valueOf(node);
            default:
                return INVALID_ARGUMENT;
        }
    }

    public int cell(int cell) {
        return isCell(cell) ? sheet.cells[cell] : INVALID_ARGUMENT;
    }

    // ---- plans

    public int plan(int what) {
        steps.make(expanded, sheet.formulas, sheet.places);
        switch (what) {
            case 0:
                return steps.length;
            case 1:
                return steps.cost;
            case 2:
                return steps.spills;
            case 3:
                return steps.fetches;
            case 4:
                return steps.operationCost;
            default:
                return INVALID_ARGUMENT;
        }
    }

    public int step(int step, int what) {
        if (step < 0 || what < 0 || what > 3) {
            return INVALID_ARGUMENT;
        }
        steps.make(expanded, sheet.formulas, sheet.places);
        if (!steps.has(step)) {
            return NONE;
        }
        switch (what) {
            case 0:
                return steps.kinds[step];
            case 1:
                return steps.formulas[step];
            case 2:
                return steps.nodes[step];
            default:
                return steps.helds[step];
        }
    }

    public int costWith(int places) {
        if (!arePlaces(places)) {
            return INVALID_ARGUMENT;
        }
        steps.make(expanded, sheet.formulas, places);
        return steps.cost;
    }

    public int enough() {
        for (int places = FEWEST_PLACES; places < MOST_PLACES; places++) {
            steps.make(expanded, sheet.formulas, places);
            if (steps.spills == 0) {
                return places;
            }
        }
        return MOST_PLACES;
    }

    public int proved(int formula) {
        int refusal = refusalToTry(formula);
        if (refusal != 0) {
            return refusal;
        }
        trial.tryOrders(expanded[formula]);
        return trial.places;
    }

    public int ways(int formula) {
        int refusal = refusalToTry(formula);
        if (refusal != 0) {
            return refusal;
        }
        trial.tryOrders(expanded[formula]);
        return trial.ways[0];
    }

    // ---- what the calls share

    private boolean isFormula(int formula) {
        return formula >= 0 && formula < sheet.formulas && formula < FORMULAS;
    }

    private static boolean isCell(int cell) {
        return cell >= 0 && cell < CELLS;
    }

    private static boolean arePlaces(int places) {
        return places >= FEWEST_PLACES && places <= MOST_PLACES;
    }

    private int refusalToTry(int formula) {
        if (!isFormula(formula)) {
            return INVALID_ARGUMENT;
        }
        return expanded[formula].pairs() > TRIED_PAIRS ? NONE : 0;
    }

    private static int partsOf(int kind) {
        if (kind < OPPOSITE) {
            return 0;
        }
        return kind == OPPOSITE ? 1 : 2;
    }

    private void recordState() {
        if (states >= history.length) {
            dropOldestState();
        }
        if (states >= 0 && states < history.length) {
            history[states].copyState(sheet);
            states++;
        }
    }

    // The oldest state's rows are used again for the next one that is recorded.
    private void dropOldestState() {
        Sheet oldest = history[0];
        for (int i = 1; i < history.length; i++) {
            history[i - 1] = history[i];
        }
        history[history.length - 1] = oldest;
        states = history.length - 1;
    }

    private void workAnew() {
        for (int i = 0; i < sheet.formulas && i < FORMULAS; i++) {
            boolean definition = i < sheet.formulas - 1;
            expanded[i].make(sheet.forms[i], definition, expanded);
            expanded[i].measure(sheet.cells, expanded);
        }
    }

    private int cheapDefinitions() {
        int sum = 0;
        for (int i = 0; i < sheet.formulas && i < FORMULAS; i++) {
            sum += expanded[i].cheap ? 1 : 0;
        }
        return sum;
    }

    private int nodesAsRead() {
        int sum = 0;
        for (int i = 0; i < sheet.formulas && i < FORMULAS; i++) {
            sum += sheet.forms[i].size;
        }
        return sum;
    }

    private int greatestNeed() {
        int greatest = 0;
        for (int i = 0; i < sheet.formulas && i < FORMULAS; i++) {
            if (!expanded[i].cheap) {
                greatest = Math.max(greatest, expanded[i].needOf(0));
            }
        }
        return greatest;
    }

    // No formula holds its own capital, and no cheap definition holds any: all can be looked through.
    private int usesOf(int definition) {
        int sum = 0;
        for (int i = 0; i < sheet.formulas && i < FORMULAS; i++) {
            Form nodes = expanded[i].nodes;
            for (int node = 0; node < nodes.size; node++) {
                boolean use = nodes.kindOf(node) == CAPITAL && nodes.contentOf(node) == definition;
                sum += use ? 1 : 0;
            }
        }
        return sum;
    }

    /**
     * The nodes of a formula: each one, then its left (or only) part, then its right part, so that
     * every part stands in one piece. A new one is the number 0.
     */
    private static final class Form {
        private final int[] kinds;
        private final int[] contents;
        private int size = 1;

        private Form(int room) {
            kinds = new int[Math.max(1, room)];
            contents = new int[Math.max(1, room)];
        }

        private boolean has(int node) {
            return node >= 0 && node < size && node < kinds.length && node < contents.length;
        }

        private int kindOf(int node) {
            return has(node) ? kinds[node] : NUMBER;
        }

        private int contentOf(int node) {
            return has(node) ? contents[node] : 0;
        }

        private boolean hasKind(int kind) {
            for (int node = 0; node < size; node++) {
                if (kindOf(node) == kind) {
                    return true;
                }
            }
            return false;
        }

        private boolean isFull() {
            return size >= kinds.length || size >= contents.length;
        }

        /** Puts a node at the end; tells whether there was room. */
        private boolean add(int kind, int content) {
            if (isFull()) {
                return false;
            }
            kinds[size] = kind;
            contents[size] = content;
            size++;
            return true;
        }

        /** Puts a node in front of another one; tells whether there was room. */
        private boolean insert(int node, int kind, int content) {
            if (isFull() || node < 0 || node > size) {
                return false;
            }
            System.arraycopy(kinds, node, kinds, node + 1, size - node);
            System.arraycopy(contents, node, contents, node + 1, size - node);
            kinds[node] = kind;
            contents[node] = content;
            size++;
            return true;
        }

        private void addAll(Form other) {
            int added = other.size;
            for (int node = 0; node < added; node++) {
                add(other.kindOf(node), other.contentOf(node));
            }
        }

        private void copy(Form other) {
            size = 0;
            addAll(other);
        }

        /** The first node behind a part. */
        private int behind(int node) {
            int next = Math.max(0, node);
            int missing = 1;
            while (missing > 0 && next < size) {
                missing += partsOf(kindOf(next)) - 1;
                next++;
            }
            return next;
        }

        /** Exchanges both parts of a node by turning each of them around, and then both together. */
        private void exchange(int node) {
            int middle = behind(node + 1);
            int end = behind(middle);
            turnAround(node + 1, middle - 1);
            turnAround(middle, end - 1);
            turnAround(node + 1, end - 1);
        }

        private void turnAround(int first, int last) {
            int low = first;
            int high = last;
            while (low < high && has(low) && has(high)) {
                int kind = kinds[low];
                kinds[low] = kinds[high];
                kinds[high] = kind;
                int content = contents[low];
                contents[low] = contents[high];
                contents[high] = content;
                low++;
                high--;
            }
        }
    }

    /** A state: all but the text and the history. A new one is that of a new object. */
    private static final class Sheet {
        private final Form[] forms = new Form[FORMULAS];
        private int formulas = 1;
        private final int[] cells = new int[CELLS];
        private int places = FIRST_PLACES;

        private Sheet() {
            for (int i = 0; i < forms.length; i++) {
                forms[i] = new Form(READ_NODES);
            }
        }

        private void copyFormulas(Sheet other) {
            formulas = other.formulas;
            for (int i = 0; i < formulas && i < FORMULAS; i++) {
                forms[i].copy(other.forms[i]);
            }
        }

        private void copyState(Sheet other) {
            copyFormulas(other);
            System.arraycopy(other.cells, 0, cells, 0, CELLS);
            places = other.places;
        }
    }

    /** The text, and its reading into a draft. Where a reading fails, place stays at the failure. */
    private static final class Reader {
        private final int[] text = new int[TEXT_LIMIT];
        private int length;
        private int place;
        private final Sheet draft = new Sheet();

        private boolean take(int character) {
            if (length < 0 || length >= text.length) {
                return false;
            }
            text[length] = character;
            length++;
            return true;
        }

        private int sign() {
            return place >= 0 && place < length && place < text.length ? text[place] : END;
        }

        private boolean pass(int wanted) {
            boolean fits = sign() == wanted;
            place += fits ? 1 : 0;
            return fits;
        }

        // The next definition's capital can't stand in a formula yet, so it always begins a definition.
        private boolean readSheet() {
            place = 0;
            for (int i = 0; i < FORMULAS; i++) {
                draft.forms[i].size = 0;
            }
            int ahead = 0;
            while (ahead < DEFINITIONS && pass('A' + ahead)) {
                if (!pass('=') || !readSum(draft.forms[ahead], ahead, 0) || !pass(';')) {
                    return false;
                }
                ahead++;
            }
            draft.formulas = ahead + 1;
            return readSum(draft.forms[ahead], ahead, 0) && sign() == END;
        }

        // A formula is full ahead of the bound of this loop and of the next one.
        private boolean readSum(Form into, int ahead, int depth) {
            int start = into.size;
            boolean good = readProduct(into, ahead, depth);
            for (int i = 0; i < READ_NODES && good && (sign() == '+' || sign() == '-'); i++) {
                int kind = sign() == '+' ? PLUS : MINUS;
                good = readOperation(into, start, kind) && readProduct(into, ahead, depth);
            }
            return good;
        }

        private boolean readProduct(Form into, int ahead, int depth) {
            int start = into.size;
            boolean good = readFactor(into, ahead, depth);
            for (int i = 0; i < READ_NODES && good && sign() == '*'; i++) {
                good = readOperation(into, start, TIMES) && readFactor(into, ahead, depth);
            }
            return good;
        }

        // All that stands behind the start is the left part of the operation.
        private boolean readOperation(Form into, int start, int kind) {
            boolean fits = into.insert(start, kind, 0);
            place += fits ? 1 : 0;
            return fits;
        }

        private boolean readFactor(Form into, int ahead, int depth) {
            if (sign() == '(' || sign() == '!') {
                return depth < NESTING && readNested(into, ahead, depth + 1);
            }
            return readLeaf(into, ahead);
        }

        private boolean readNested(Form into, int ahead, int depth) {
            if (pass('(')) {
                return readSum(into, ahead, depth) && pass(')');
            }
            return !into.isFull() && pass('!') && into.add(OPPOSITE, 0) && readFactor(into, ahead, depth);
        }

        private boolean readLeaf(Form into, int ahead) {
            int sign = sign();
            if (into.isFull()) {
                return false;
            }
            if (isDigit(sign)) {
                return into.add(NUMBER, readNumber());
            }
            if (sign >= 'a' && sign < 'a' + CELLS) {
                return pass(sign) && into.add(LETTER, sign - 'a');
            }
            return sign >= 'A' && sign < 'A' + ahead && pass(sign) && into.add(CAPITAL, sign - 'A');
        }

        // A digit too many is left standing; it fails there, as it is no operation.
        private int readNumber() {
            int number = 0;
            int digits = 0;
            while (digits < DIGITS && isDigit(sign()) && (digits == 0 || number > 0)) {
                number = 10 * number + sign() - '0';
                digits++;
                place++;
            }
            return number;
        }

        private static boolean isDigit(int sign) {
            return sign >= '0' && sign <= '9';
        }
    }

    /** The expanded form of a formula, and what each of its nodes needs and is worth. */
    private static final class Expanded {
        private final int formula;
        private final Form nodes = new Form(EXPANDED_NODES);
        private boolean cheap;
        private final int[] sizes = new int[EXPANDED_NODES];
        private final int[] needs = new int[EXPANDED_NODES];
        private final int[] depths = new int[EXPANDED_NODES];
        private final int[] values = new int[EXPANDED_NODES];

        private Expanded(int formula) {
            this.formula = formula;
            sizes[0] = 1;
            needs[0] = 1;
            depths[0] = 1;
        }

        private static int entry(int[] row, int node) {
            return node >= 0 && node < row.length ? row[node] : 0;
        }

        private int sizeOf(int node) {
            return entry(sizes, node);
        }

        private int needOf(int node) {
            return entry(needs, node);
        }

        private int depthOf(int node) {
            return entry(depths, node);
        }

        private int valueOf(int node) {
            return entry(values, node);
        }

        private int rightOf(int node) {
            return node + 1 + sizeOf(node + 1);
        }

        /** The number of nodes with two parts. */
        private int pairs() {
            int sum = 0;
            for (int node = 0; node < nodes.size; node++) {
                sum += partsOf(nodes.kindOf(node)) == 2 ? 1 : 0;
            }
            return sum;
        }

        private void make(Form read, boolean definition, Expanded[] all) {
            nodes.size = 0;
            for (int node = 0; node < read.size; node++) {
                int content = read.contentOf(node);
                boolean capital = read.kindOf(node) == CAPITAL;
                if (capital && content >= 0 && content < formula && content < all.length && all[content].cheap) {
                    nodes.addAll(all[content].nodes);
                } else {
                    nodes.add(read.kindOf(node), content);
                }
            }
            cheap = definition && nodes.size <= CHEAP_NODES && !nodes.hasKind(TIMES) && !nodes.hasKind(CAPITAL);
        }

        // Parts stand behind their node, so that from the end on they are measured ahead of it.
        private void measure(int[] cells, Expanded[] all) {
            for (int node = Math.min(nodes.size, EXPANDED_NODES) - 1; node >= 0; node--) {
                int left = node + 1;
                int parts = partsOf(nodes.kindOf(node));
                if (parts == 0) {
                    put(node, 1, 1, 1);
                    values[node] = leafValue(node, cells, all);
                } else if (parts == 1) {
                    put(node, sizeOf(left) + 1, needOf(left), depthOf(left) + 1);
                    values[node] = -valueOf(left);
                } else {
                    int right = rightOf(node);
                    int depth = Math.max(depthOf(left), depthOf(right)) + 1;
                    put(node, sizeOf(left) + sizeOf(right) + 1, needOfPair(needOf(left), needOf(right)), depth);
                    values[node] = operate(nodes.kindOf(node), valueOf(left), valueOf(right));
                }
            }
        }

        private void put(int node, int size, int need, int depth) {
            if (node >= 0 && node < EXPANDED_NODES) {
                sizes[node] = size;
                needs[node] = need;
                depths[node] = depth;
            }
        }

        private static int needOfPair(int left, int right) {
            return left == right ? left + 1 : Math.max(left, right);
        }

        private int leafValue(int node, int[] cells, Expanded[] all) {
            int kind = nodes.kindOf(node);
            int content = nodes.contentOf(node);
            if (kind == LETTER) {
                return entry(cells, content);
            }
            if (kind == CAPITAL) {
                return content >= 0 && content < all.length ? all[content].valueOf(0) : 0;
            }
            return content;
        }

        // A product can have 10 digits, which is too many for an int.
        private static int operate(int kind, long left, long right) {
            long value = left * right;
            if (kind == PLUS) {
                value = left + right;
            } else if (kind == MINUS) {
                value = left - right;
            }
            return (int) Math.max(-VALUE_LIMIT, Math.min(VALUE_LIMIT, value));
        }
    }

    /** The steps with which a sheet is worked out with a number of places. */
    private static final class Plan {
        // No formula has more steps than one for each node, two more for each node with two parts, and a store.
        private static final int ROOM = FORMULAS * (2 * EXPANDED_NODES + 1);

        private final int[] kinds = new int[ROOM];
        private final int[] formulas = new int[ROOM];
        private final int[] nodes = new int[ROOM];
        private final int[] helds = new int[ROOM];
        private int length;
        private int cost;
        private int spills;
        private int fetches;
        private int operationCost;
        private int held;

        private boolean has(int step) {
            return step >= 0 && step < length && step < ROOM;
        }

        private void make(Expanded[] all, int number, int places) {
            length = 0;
            cost = 0;
            spills = 0;
            fetches = 0;
            operationCost = 0;
            held = 0;
            for (int i = 0; i < number && i < all.length; i++) {
                if (!all[i].cheap) {
                    workOut(all[i], 0, places, 1);
                    if (i < number - 1) {
                        addStep(STORE, all[i], 0, MEMORY_STEP, -1);
                    }
                }
            }
        }

        private void workOut(Expanded form, int node, int places, int level) {
            if (level > LEVELS) {
                return;
            }
            int kind = form.nodes.kindOf(node);
            int parts = partsOf(kind);
            if (kind == CAPITAL) {
                addStep(FETCH, form, node, MEMORY_STEP, 1);
            } else if (parts == 0) {
                addStep(LOAD, form, node, CHEAP_STEP, 1);
            } else if (parts == 1) {
                workOut(form, node + 1, places, level + 1);
                addStep(OPERATION, form, node, CHEAP_STEP, 0);
            } else {
                workOutParts(form, node, places, level + 1);
                addStep(OPERATION, form, node, kind == TIMES ? TIMES_STEP : CHEAP_STEP, -1);
            }
        }

        private void workOutParts(Expanded form, int node, int places, int level) {
            int left = node + 1;
            int right = form.rightOf(node);
            boolean leftFirst = form.needOf(left) >= form.needOf(right);
            int first = leftFirst ? left : right;
            int second = leftFirst ? right : left;
            workOut(form, first, places, level);
            if (form.needOf(second) < places) {
                workOut(form, second, places - 1, level);
            } else {
                addStep(SPILL, form, first, MEMORY_STEP, -1);
                workOut(form, second, places, level);
                addStep(RELOAD, form, first, MEMORY_STEP, 1);
            }
        }

        private void addStep(int kind, Expanded form, int node, int price, int moreHeld) {
            held += moreHeld;
            cost += price;
            spills += kind == SPILL ? 1 : 0;
            fetches += kind == FETCH ? 1 : 0;
            operationCost += kind == OPERATION ? price : 0;
            if (length >= 0 && length < ROOM) {
                kinds[length] = kind;
                formulas[length] = form.formula;
                nodes[length] = node;
                helds[length] = held;
                length++;
            }
        }
    }

    /**
     * The ways to choose, for each node with two parts, which of them is worked out first. For one
     * number of places after the other it is told of each part how many of its ways do with so many.
     */
    private static final class Trial {
        private final int[] ways = new int[EXPANDED_NODES];
        private final int[] waysWithOneLess = new int[EXPANDED_NODES];
        private int places;

        private void tryOrders(Expanded form) {
            places = 0;
            for (int node = 0; node < EXPANDED_NODES; node++) {
                ways[node] = 0;
            }
            // Each node with two parts asks for at most one place more.
            while (places <= TRIED_PAIRS && ways[0] == 0) {
                places++;
                System.arraycopy(ways, 0, waysWithOneLess, 0, EXPANDED_NODES);
                for (int node = Math.min(form.nodes.size, EXPANDED_NODES) - 1; node >= 0; node--) {
                    ways[node] = waysFor(form, node);
                }
            }
        }

        private int waysFor(Expanded form, int node) {
            int left = node + 1;
            int parts = partsOf(form.nodes.kindOf(node));
            if (parts == 0) {
                return 1;
            }
            if (parts == 1) {
                return Expanded.entry(ways, left);
            }
            int right = form.rightOf(node);
            int leftFirst = Expanded.entry(ways, left) * Expanded.entry(waysWithOneLess, right);
            int rightFirst = Expanded.entry(ways, right) * Expanded.entry(waysWithOneLess, left);
            return leftFirst + rightFirst;
        }
    }
}

/** What the tests share: answers that are due, and texts that are typed sign by sign. */
final class Check {
    static final int INVALID = -1000001;
    static final int STATE = -1000002;
    static final int FULL = -1000003;
    static final int NONE = -1000009;

    private int wrong;
    private int looked;

    void due(String call, long got, long want) {
        looked++;
        if (got != want) {
            wrong++;
            System.out.println(call + " answered " + got + ", due is " + want);
        }
    }

    /** Due are as many answers as there are numbers. */
    void dueAll(String call, int[] got, int... want) {
        due(call + ": how many", got.length, want.length);
        for (int i = 0; i < Math.min(got.length, want.length); i++) {
            due(call + " [" + i + "]", got[i], want[i]);
        }
    }

    void end(String name) {
        System.out.println(name + ": " + looked + " answers, " + wrong + " wrong");
        if (wrong != 0 || looked == 0) {
            System.exit(1);
        }
    }

    static void type(LeastPlaces x, String text) {
        for (int i = 0; i < text.length(); i++) {
            x.append(text.charAt(i));
        }
    }

    /** What read() answers to a text that replaces the one that there is. */
    static int readText(LeastPlaces x, String text) {
        x.clearText();
        type(x, text);
        return x.read();
    }

    static LeastPlaces sheet(String text) {
        LeastPlaces x = new LeastPlaces();
        if (readText(x, text) < 1) {
            throw new IllegalArgumentException(text);
        }
        return x;
    }

    /** All nodes' answers to one question. */
    static int[] nodes(LeastPlaces x, int formula, int what) {
        int[] all = new int[x.formula(formula, 1)];
        for (int i = 0; i < all.length; i++) {
            all[i] = x.node(formula, i, what);
        }
        return all;
    }

    /** All steps' answers to one question. */
    static int[] steps(LeastPlaces x, int what) {
        int[] all = new int[x.plan(0)];
        for (int i = 0; i < all.length; i++) {
            all[i] = x.step(i, what);
        }
        return all;
    }

    /** The numbers below and above a range, and the far ends. */
    static int[] outside(int low, int high) {
        return new int[] {low - 1, high + 1, Integer.MIN_VALUE, Integer.MAX_VALUE};
    }
}

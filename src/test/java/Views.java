import java.util.function.Supplier;
import java.util.stream.IntStream;

/**
 * All that can be seen of an object by its calls. Each view looks at an object of its own, made in the
 * same way: some views change what they look at, and an object is used for at most 512 calls.
 */
final class Views {
    private static final int STEPS = 80;

    private Views() {
    }

    static int[] of(Supplier<LeastPlaces> start) {
        IntStream.Builder all = IntStream.builder();
        numbers(start.get(), all);
        int formulas = start.get().count(0);
        for (int formula = 0; formula < formulas; formula++) {
            nodes(start.get(), formula, all, 0, 1, 3, 4, 5, 6);
        }
        steps(start.get(), all);
        text(start.get(), all);
        history(start.get(), all);
        return all.build().toArray();
    }

    private static void numbers(LeastPlaces x, IntStream.Builder all) {
        light(x, all);
        for (int what = 0; what < 5; what++) {
            all.add(x.plan(what));
        }
        for (int places = 2; places <= 8; places++) {
            all.add(x.costWith(places));
        }
        all.add(x.enough());
        for (int formula = 0; formula < x.count(0); formula++) {
            for (int what = 0; what < 7; what++) {
                all.add(x.formula(formula, what));
            }
            all.add(x.proved(formula));
            all.add(x.ways(formula));
        }
    }

    private static void light(LeastPlaces x, IntStream.Builder all) {
        for (int what = 0; what < 7; what++) {
            all.add(x.count(what));
        }
        for (int cell = 0; cell < 8; cell++) {
            all.add(x.cell(cell));
        }
        all.add(x.plan(1));
    }

    private static void nodes(LeastPlaces x, int formula, IntStream.Builder all, int... whats) {
        int nodes = x.formula(formula, 1);
        for (int node = 0; node < nodes; node++) {
            for (int what : whats) {
                all.add(x.node(formula, node, what));
            }
        }
    }

    private static void steps(LeastPlaces x, IntStream.Builder all) {
        int steps = Math.min(STEPS, x.plan(0));
        for (int step = 0; step < steps; step++) {
            for (int what = 0; what < 4; what++) {
                all.add(x.step(step, what));
            }
        }
    }

    /** The text by what is read from it, as it is and with one sign more. */
    private static void text(LeastPlaces x, IntStream.Builder all) {
        all.add(x.read());
        light(x, all);
        nodes(x, x.count(0) - 1, all, 0, 1);
        all.add(x.append('1'));
        all.add(x.read());
        light(x, all);
        all.add(x.clearText());
    }

    private static void history(LeastPlaces x, IntStream.Builder all) {
        int left = 1;
        for (int i = 0; i < 7 && left >= 0; i++) {
            left = x.undo();
            all.add(left);
            light(x, all);
            for (int formula = 0; formula < x.count(0); formula++) {
                all.add(x.formula(formula, 4));
                all.add(x.node(formula, 0, 0));
                all.add(x.node(formula, 1, 0));
                all.add(x.node(formula, 1, 1));
            }
        }
    }
}

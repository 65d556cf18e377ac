import java.util.Arrays;
import java.util.Set;
import java.util.TreeSet;
import java.util.function.Supplier;
import java.util.function.ToIntFunction;

/** A sentence of the document in its own words, and the answers that are due by it. */
final class Sentence {
    private static final Set<String> named = new TreeSet<>();

    private final Check check;
    private final String name;

    Sentence(Check check, String section, String words) {
        this.check = check;
        name = section + ", \"" + words + "\"";
        named.add(section + ", " + words);
        check.due(name + " stands in the document", Document.has(section, words) ? 1 : 0, 1);
    }

    /** Due is a test that names each argument and each answer of each promise. */
    static void dueForEachPromise(Check check) {
        for (String promised : Document.promised()) {
            check.due("a test names " + promised, named.contains(promised) ? 1 : 0, 1);
        }
    }

    void due(String call, long got, long want) {
        check.due(name + ": " + call, got, want);
    }

    void dueAll(String call, int[] got, int... want) {
        check.dueAll(name + ": " + call, got, want);
    }

    // ---- texts

    /** Due is that a text is read, with so many formulas. */
    LeastPlaces reads(String text, int formulas) {
        LeastPlaces x = new LeastPlaces();
        due("read of " + text, Check.readText(x, text), formulas);
        return x;
    }

    /** Due is that a text fails at a place, and that nothing has changed then. */
    void fails(String text, int place) {
        unchanged(() -> withText(Starts.partly(), text), "read of " + text, LeastPlaces::read, -1000 - place);
    }

    void dueValue(String text, int value) {
        due("value of " + text, Check.sheet(text).formula(Check.sheet(text).count(0) - 1, 4), value);
    }

    private static LeastPlaces withText(LeastPlaces x, String text) {
        x.clearText();
        Check.type(x, text);
        return x;
    }

    // ---- calls that change nothing

    /** Due is an answer with which nothing changes: with no history, with a part of one and with a full one. */
    void refuses(String call, ToIntFunction<LeastPlaces> asked, int want) {
        unchanged(LeastPlaces::new, call + " on a new object", asked, want);
        unchanged(Starts::partly, call, asked, want);
        unchanged(Starts::full, call + " with a full history", asked, want);
    }

    void unchanged(Supplier<LeastPlaces> start, String call, ToIntFunction<LeastPlaces> asked, int want) {
        due(call, asked.applyAsInt(start.get()), want);
        int[] before = Views.of(start);
        int[] after = Views.of(() -> {
            LeastPlaces x = start.get();
            asked.applyAsInt(x);
            return x;
        });
        due(call + " changes nothing; the first answer that is another one", Arrays.mismatch(before, after), -1);
    }
}

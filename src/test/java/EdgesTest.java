/** Each sentence of the document that names a boundary or a refused call, at its last and its first value. */
public final class EdgesTest {
    public static void main(String[] args) {
        Check check = new Check();
        new FormulaEdges(check).all();
        new PlanEdges(check).all();
        new CallEdges(check).all();
        new TellingEdges(check).all();
        Sentence.dueForEachPromise(check);
        check.end("EdgesTest");
    }
}

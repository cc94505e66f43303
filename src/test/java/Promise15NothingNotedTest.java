// Promise 15: "IllegalState: there is no such scale, or nothing was noted." Of an empty corpus, beside others, after clear.
public final class Promise15NothingNotedTest {
    public static void main(String[] args) {
        VisualSums sums = new VisualSums(1, 1, 1);
        for (int corpus = 0; corpus < 8; corpus++) {
            int which = corpus;
            Check.illegalState("mean of the empty " + which, () -> sums.mean(which));
            sums.note(which, 0.0);
            Check.same("mean of one 0.0", sums.mean(which), 0.0);
        }
        sums.clear();
        for (int corpus = 0; corpus < 8; corpus++) {
            int which = corpus;
            Check.illegalState("mean after clear " + which, () -> sums.mean(which));
        }
        Check.illegalArgument("a refused note", () -> sums.note(4, Double.NaN));
        Check.illegalState("mean after a refused note", () -> sums.mean(4));
        Check.end();
    }
}

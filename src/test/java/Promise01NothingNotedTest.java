// Promise 1: "nothing was noted". No corpus of a new object has a number, whatever other objects have.
public final class Promise01NothingNotedTest {
    public static void main(String[] args) {
        VisualSums other = new VisualSums(5, 5, 1);
        for (int corpus = 0; corpus < 8; corpus++) {
            other.note(corpus, 1.0);
        }
        VisualSums sums = new VisualSums(5, 5, 1);
        for (int corpus = 0; corpus < 8; corpus++) {
            int which = corpus;
            Check.illegalState("mean " + which, () -> sums.mean(which));
            Check.outOfBounds("ranked " + which, () -> sums.ranked(which, 0));
            Check.same("wins " + which, sums.wins(which, 7 - which), 0);
        }
        for (int corpus = 0; corpus < 8; corpus++) {
            Check.same("the first note of " + corpus, sums.note(corpus, 2.0), 1);
        }
        Check.end();
    }
}

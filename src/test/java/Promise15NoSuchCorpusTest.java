// Promise 15: "IndexOutOfBounds: there is no such place, channel, cell, corpus". Before "nothing was noted" there, too.
public final class Promise15NoSuchCorpusTest {
    public static void main(String[] args) {
        VisualSums sums = new VisualSums(1, 1, 1);
        for (int corpus : Edges.NO_CORPUS) {
            Check.outOfBounds("mean of " + corpus + ", nothing noted", () -> sums.mean(corpus));
        }
        for (int corpus = 0; corpus <= 7; corpus++) {
            sums.note(corpus, corpus);
            Check.same("mean of " + corpus, sums.mean(corpus), (double) corpus);
        }
        for (int corpus : Edges.NO_CORPUS) {
            Check.outOfBounds("mean of " + corpus, () -> sums.mean(corpus));
        }
        Check.end();
    }
}

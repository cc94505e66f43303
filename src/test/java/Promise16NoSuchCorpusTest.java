// Promise 16: "IndexOutOfBounds: there is no such place, channel, cell, corpus, or note." Corpora beyond 0 .. 7.
public final class Promise16NoSuchCorpusTest {
    public static void main(String[] args) {
        VisualSums sums = new VisualSums(1, 1, 1);
        for (int corpus = 0; corpus <= 7; corpus++) {
            sums.note(corpus, corpus);
            Check.same("ranked of " + corpus, sums.ranked(corpus, 0), (double) corpus);
        }
        for (int corpus : Edges.NO_CORPUS) {
            Check.outOfBounds("ranked of " + corpus, () -> sums.ranked(corpus, 0));
            Check.outOfBounds("ranked of " + corpus + " at none", () -> sums.ranked(corpus, -1));
        }
        Check.end();
    }
}

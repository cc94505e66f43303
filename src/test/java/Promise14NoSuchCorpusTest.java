// Promise 14: "for a corpus, 0 .. 7", "IndexOutOfBounds: there is no such place, channel, cell, corpus, or note."
public final class Promise14NoSuchCorpusTest {
    public static void main(String[] args) {
        VisualSums sums = new VisualSums(1, 1, 1);
        for (int corpus : Edges.NO_CORPUS) {
            Check.outOfBounds("note for " + corpus, () -> sums.note(corpus, 1.0));
        }
        for (int corpus = 0; corpus <= 7; corpus++) {
            Check.same("note for " + corpus, sums.note(corpus, 1.0), 1);
        }
        Check.end();
    }
}

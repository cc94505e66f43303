// Promise 17: "IndexOutOfBounds: there is no such place, channel, cell, corpus". The first one, the other one, or both.
public final class Promise17NoSuchCorpusTest {
    public static void main(String[] args) {
        VisualSums sums = new VisualSums(1, 1, 1);
        sums.note(0, 1.0);
        for (int corpus : Edges.NO_CORPUS) {
            Check.outOfBounds("wins of " + corpus, () -> sums.wins(corpus, 0));
            Check.outOfBounds("wins against " + corpus, () -> sums.wins(0, corpus));
            Check.outOfBounds("wins of an empty one against " + corpus, () -> sums.wins(3, corpus));
            Check.outOfBounds("wins of both " + corpus, () -> sums.wins(corpus, corpus));
        }
        for (int corpus = 0; corpus <= 7; corpus++) {
            Check.same("wins of " + corpus, sums.wins(corpus, 7 - corpus), 0);
        }
        Check.end();
    }
}

/** Promises 14 to 17: note, mean, ranked and wins. */
public final class NotesTest {
    private static final int MIN = Integer.MIN_VALUE;
    private static final int MAX = Integer.MAX_VALUE;
    private static final int[] NO_CORPUS = {-1, 8, MIN, MAX};

    public static void main(String[] args) {
        promise14Note();
        promise14NoteWrong();
        promise14NoteFull();
        promise15Mean();
        promise15MeanWrong();
        promise16Ranked();
        promise16RankedWrong();
        promise17Wins();
        promise17WinsWrong();
        Check.end();
    }

    private static VisualSums noted(int corpus, double... numbers) {
        VisualSums sums = new VisualSums(1, 1, 1);
        noteAll(sums, corpus, numbers);
        return sums;
    }

    private static void noteAll(VisualSums sums, int corpus, double... numbers) {
        for (double number : numbers) {
            sums.note(corpus, number);
        }
    }

    private static void promise14Note() {
        VisualSums sums = new VisualSums(1, 1, 1);
        for (int corpus = 0; corpus < 8; corpus++) {
            Check.same("the first note", sums.note(corpus, 1000000.0), 1);
            Check.same("the second note", sums.note(corpus, -1000000.0), 2);
            Check.same("the same number again", sums.note(corpus, -1000000.0), 3);
        }
        VisualSums zero = noted(5, -0.0);
        Check.same("-0.0 is noted as 0.0", zero.ranked(5, 0), 0.0);
        Check.same("the mean of it", zero.mean(5), 0.0);
        Check.same("the least number there is", noted(0, Double.MIN_VALUE).ranked(0, 0), Double.MIN_VALUE);
    }

    private static void promise14NoteWrong() {
        VisualSums sums = noted(2, 1.0);
        double[] wrong = {1000000.0000000001, 1000000.125, -1000000.0000000002, Double.NaN, Double.POSITIVE_INFINITY,
            Double.NEGATIVE_INFINITY, Double.MAX_VALUE, -Double.MAX_VALUE};
        for (double v : wrong) {
            Check.illegalArgument("note " + v, () -> sums.note(2, v));
            for (int corpus : NO_CORPUS) {
                Check.outOfBounds("note " + v + " for " + corpus, () -> sums.note(corpus, v));
            }
        }
        for (int corpus : NO_CORPUS) {
            Check.outOfBounds("note for " + corpus, () -> sums.note(corpus, 0.0));
        }
        Check.same("a note that throws changes nothing", sums.note(2, 3.0), 2);
        Check.same("nor the mean", sums.mean(2), 2.0);
    }

    private static void promise14NoteFull() {
        VisualSums sums = new VisualSums(1, 1, 1);
        double sum = 0.0;
        for (int i = 1; i <= 200; i++) {
            double v = i % 7 - 0.1 * i;
            sum += v;
            Check.same("note " + i, sums.note(7, v), i);
        }
        Check.unsupported("note 201", () -> sums.note(7, 1.0));
        Check.illegalArgument("no number comes before no room", () -> sums.note(7, Double.NaN));
        Check.same("another corpus has room", sums.note(6, 1.0), 1);
        Check.same("a note without room changes nothing", sums.mean(7), sum / 200.0);
        Check.outOfBounds("nor the ranks", () -> sums.ranked(7, 200));
        double before = sums.ranked(7, 0);
        for (int i = 1; i < 200; i++) {
            double next = sums.ranked(7, i);
            Check.same("ranked " + i + " is not less", before <= next, true);
            before = next;
        }
        sums.clear();
        Check.same("room after clear", sums.note(7, 1.0), 1);
    }

    private static void promise15Mean() {
        Check.same("mean of one", noted(3, 2.5).mean(3), 2.5);
        Check.same("mean of three", noted(3, 1.0, 2.0, 4.0).mean(3), 7.0 / 3.0);
        // these sums would be others in another order
        double inOrder = ((0.0 + 1000000.0) + 0.1) + -1000000.0;
        Check.same("mean in the order in which they came", noted(0, 1000000.0, 0.1, -1000000.0).mean(0), inOrder / 3.0);
        double other = ((0.0 + 0.1) + 1000000.0) + -1000000.0;
        Check.same("mean in another order", noted(0, 0.1, 1000000.0, -1000000.0).mean(0), other / 3.0);
        double third = ((0.0 + 1000000.0) + -1000000.0) + 0.1;
        Check.same("mean in a third order", noted(0, 1000000.0, -1000000.0, 0.1).mean(0), third / 3.0);
        Check.same("the orders differ", inOrder == third, false);
        VisualSums sums = noted(0, 1.0);
        noteAll(sums, 1, 5.0, 6.0);
        Check.same("each corpus has its own mean", sums.mean(0), 1.0);
        Check.same("each corpus has its own mean, too", sums.mean(1), 5.5);
    }

    private static void promise15MeanWrong() {
        VisualSums sums = noted(4, 1.0);
        for (int corpus : NO_CORPUS) {
            Check.outOfBounds("mean " + corpus, () -> sums.mean(corpus));
        }
        Check.illegalState("mean of nothing", () -> sums.mean(3));
        Check.illegalState("mean of nothing, too", () -> sums.mean(5));
    }

    private static void promise16Ranked() {
        double[] sorted = {-1000000.0, -3.5, -3.5, 0.0, 0.0, 0.25, 7.0, 1000000.0};
        VisualSums sums = noted(1, 0.25, -3.5, 1000000.0, -0.0, 7.0, -1000000.0, -3.5, 0.0);
        for (int i = 0; i < sorted.length; i++) {
            Check.same("ranked " + i, sums.ranked(1, i), sorted[i]);
        }
        Check.same("the order in which they came is kept", sums.mean(1), 0.25 / 8.0);
        sums.note(1, 0.125);
        Check.same("ranked after one more", sums.ranked(1, 5), 0.125);
        Check.same("the greatest after one more", sums.ranked(1, 8), 1000000.0);
        VisualSums falling = noted(0, 3.0, 2.0, 1.0);
        Check.same("ranked of falling ones", falling.ranked(0, 0), 1.0);
        Check.same("ranked of falling ones, last", falling.ranked(0, 2), 3.0);
    }

    private static void promise16RankedWrong() {
        VisualSums sums = noted(6, 1.0, 2.0);
        for (int corpus : NO_CORPUS) {
            Check.outOfBounds("ranked of " + corpus, () -> sums.ranked(corpus, 0));
        }
        for (int i : new int[] {-1, 2, 200, MIN, MAX}) {
            Check.outOfBounds("ranked at " + i, () -> sums.ranked(6, i));
        }
        Check.outOfBounds("ranked of nothing", () -> sums.ranked(5, 0));
        sums.clear();
        Check.outOfBounds("ranked after clear", () -> sums.ranked(6, 0));
    }

    private static void promise17Wins() {
        VisualSums sums = noted(0, 5.0, 1.0, 3.0, 9.0, 8.0);
        noteAll(sums, 1, 4.0, 2.0, 3.0, 1.0);
        Check.same("wins: two to one", sums.wins(0, 1), 1);
        Check.same("wins the other way round", sums.wins(1, 0), -1);
        Check.same("wins against itself", sums.wins(0, 0), 0);
        Check.same("wins against nothing", sums.wins(0, 2), 0);
        Check.same("wins of nothing", sums.wins(2, 0), 0);
        Check.same("wins of nothing against nothing", sums.wins(2, 7), 0);
        noteAll(sums, 3, 1.0, 3.0);
        noteAll(sums, 4, 2.0, 0.5);
        Check.same("as they were noted, not as they rank", sums.wins(3, 4), 0);
        noteAll(sums, 5, -0.0);
        noteAll(sums, 6, 0.0);
        Check.same("-0.0 is 0.0", sums.wins(5, 6), 0);
        noteAll(sums, 7, -1.0, -1.0, -1.0, -1.0, -1.0, 9.0);
        Check.same("wins of all five", sums.wins(0, 7), 5);
        Check.same("wins of none", sums.wins(7, 0), -5);
        noteAll(sums, 2, 4.0, -2.0);
        Check.same("only the places that both have", sums.wins(2, 1), -1);
    }

    private static void promise17WinsWrong() {
        VisualSums sums = noted(0, 1.0);
        for (int corpus : NO_CORPUS) {
            Check.outOfBounds("wins of " + corpus, () -> sums.wins(corpus, 0));
            Check.outOfBounds("wins against " + corpus, () -> sums.wins(0, corpus));
            Check.outOfBounds("wins of none", () -> sums.wins(corpus, corpus));
        }
    }
}

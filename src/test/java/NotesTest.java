/** Promises 14 to 17: note, mean, ranked and wins. */
public final class NotesTest {
    public static void main(String[] args) {
        promise14Note();
        promise15Mean();
        promise16Ranked();
        promise17Wins();
        Check.end();
    }

    private static VisualSums noted(int corpus, double... numbers) {
        VisualSums sums = new VisualSums(1, 1, 1);
        noteAll(sums, corpus, numbers);
        return sums;
    }

    private static void noteAll(VisualSums sums, int corpus, double... numbers) {
        for (double number : numbers) {
            sums.note(corpus, number);
        }
    }

    private static void promise14Note() {
        VisualSums sums = new VisualSums(1, 1, 1);
        for (int corpus = 0; corpus < 8; corpus++) {
            Check.same("the first note", sums.note(corpus, 1000000.0), 1);
            Check.same("the second note", sums.note(corpus, -1000000.0), 2);
            Check.same("the same number again", sums.note(corpus, -1000000.0), 3);
        }
        VisualSums zero = noted(5, -0.0);
        Check.same("-0.0 is noted as 0.0", zero.ranked(5, 0), 0.0);
        Check.same("the mean of it", zero.mean(5), 0.0);
        Check.same("the least number there is", noted(0, Double.MIN_VALUE).ranked(0, 0), Double.MIN_VALUE);
    }

    private static void promise15Mean() {
        Check.same("mean of one", noted(3, 2.5).mean(3), 2.5);
        Check.same("mean of three", noted(3, 1.0, 2.0, 4.0).mean(3), 7.0 / 3.0);
        // these sums would be others in another order
        double inOrder = ((0.0 + 1000000.0) + 0.1) + -1000000.0;
        Check.same("mean in the order in which they came", noted(0, 1000000.0, 0.1, -1000000.0).mean(0), inOrder / 3.0);
        double other = ((0.0 + 0.1) + 1000000.0) + -1000000.0;
        Check.same("mean in another order", noted(0, 0.1, 1000000.0, -1000000.0).mean(0), other / 3.0);
        double third = ((0.0 + 1000000.0) + -1000000.0) + 0.1;
        Check.same("mean in a third order", noted(0, 1000000.0, -1000000.0, 0.1).mean(0), third / 3.0);
        Check.same("the orders differ", inOrder == third, false);
        VisualSums sums = noted(0, 1.0);
        noteAll(sums, 1, 5.0, 6.0);
        Check.same("each corpus has its own mean", sums.mean(0), 1.0);
        Check.same("each corpus has its own mean, too", sums.mean(1), 5.5);
    }

    private static void promise16Ranked() {
        double[] sorted = {-1000000.0, -3.5, -3.5, 0.0, 0.0, 0.25, 7.0, 1000000.0};
        VisualSums sums = noted(1, 0.25, -3.5, 1000000.0, -0.0, 7.0, -1000000.0, -3.5, 0.0);
        for (int i = 0; i < sorted.length; i++) {
            Check.same("ranked " + i, sums.ranked(1, i), sorted[i]);
        }
        Check.same("the order in which they came is kept", sums.mean(1), 0.25 / 8.0);
        sums.note(1, 0.125);
        Check.same("ranked after one more", sums.ranked(1, 5), 0.125);
        Check.same("the greatest after one more", sums.ranked(1, 8), 1000000.0);
        VisualSums falling = noted(0, 3.0, 2.0, 1.0);
        Check.same("ranked of falling ones", falling.ranked(0, 0), 1.0);
        Check.same("ranked of falling ones, last", falling.ranked(0, 2), 3.0);
    }

    private static void promise17Wins() {
        VisualSums sums = noted(0, 5.0, 1.0, 3.0, 9.0, 8.0);
        noteAll(sums, 1, 4.0, 2.0, 3.0, 1.0);
        Check.same("wins: two to one", sums.wins(0, 1), 1);
        Check.same("wins the other way round", sums.wins(1, 0), -1);
        Check.same("wins against itself", sums.wins(0, 0), 0);
        Check.same("wins against nothing", sums.wins(0, 2), 0);
        Check.same("wins of nothing", sums.wins(2, 0), 0);
        Check.same("wins of nothing against nothing", sums.wins(2, 7), 0);
        noteAll(sums, 3, 1.0, 3.0);
        noteAll(sums, 4, 2.0, 0.5);
        Check.same("as they were noted, not as they rank", sums.wins(3, 4), 0);
        noteAll(sums, 5, -0.0);
        noteAll(sums, 6, 0.0);
        Check.same("-0.0 is 0.0", sums.wins(5, 6), 0);
        noteAll(sums, 7, -1.0, -1.0, -1.0, -1.0, -1.0, 9.0);
        Check.same("wins of all five", sums.wins(0, 7), 5);
        Check.same("wins of none", sums.wins(7, 0), -5);
        noteAll(sums, 2, 4.0, -2.0);
        Check.same("only the places that both have", sums.wins(2, 1), -1);
    }
}

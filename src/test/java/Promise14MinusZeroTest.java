// Promise 14: "A number (-0.0 as 0.0) is noted". So it is read, ranked and compared.
public final class Promise14MinusZeroTest {
    public static void main(String[] args) {
        VisualSums sums = new VisualSums(1, 1, 1);
        sums.note(2, -0.0);
        Check.same("its mean", sums.mean(2), 0.0);
        Check.same("its rank", sums.ranked(2, 0), 0.0);
        sums.note(2, 0.0);
        sums.note(2, -0.0);
        for (int i = 0; i < 3; i++) {
            Check.same("ranked " + i, sums.ranked(2, i), 0.0);
        }
        for (int i = 0; i < 3; i++) {
            sums.note(5, i == 1 ? -0.0 : 0.0);
        }
        Check.same("wins of -0.0 and 0.0", sums.wins(2, 5), 0);
        sums.note(2, -Double.MIN_VALUE);
        Check.same("the one just below is not 0.0", sums.ranked(2, 0), -Double.MIN_VALUE);
        Check.end();
    }
}

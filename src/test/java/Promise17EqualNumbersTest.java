// Promise 17: "1 where the first one's number is greater, -1 where the second one's is, summed". Equal ones count nothing.
public final class Promise17EqualNumbersTest {
    public static void main(String[] args) {
        wins(0, 1.0, 1.0);
        wins(0, 0.0, -0.0);
        wins(0, -0.0, 0.0);
        wins(0, 1000000.0, 1000000.0);
        wins(1, Math.nextUp(1.0), 1.0);
        wins(-1, 1.0, Math.nextUp(1.0));
        wins(1, Double.MIN_VALUE, 0.0);
        wins(-1, -Double.MIN_VALUE, -0.0);
        wins(1, 1000000.0, -1000000.0);
        VisualSums sums = new VisualSums(1, 1, 1);
        for (int i = 0; i < 4; i++) {
            sums.note(0, i);
            sums.note(1, 3 - i);
        }
        Check.same("against itself", sums.wins(1, 1), 0);
        Check.same("as many of both", sums.wins(0, 1), 0);
        Check.end();
    }

    private static void wins(int due, double first, double second) {
        VisualSums sums = new VisualSums(1, 1, 1);
        sums.note(0, first);
        sums.note(1, second);
        Check.same("wins of " + first + " against " + second, sums.wins(0, 1), due);
    }
}

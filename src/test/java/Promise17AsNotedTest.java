// Promise 17: "(as their numbers were noted)". The first places and the last ones, not those of the ranks.
public final class Promise17AsNotedTest {
    public static void main(String[] args) {
        VisualSums sums = new VisualSums(1, 1, 1);
        double[] first = {1.0, 2.0, 9.0};
        double[] second = {3.0, 8.0, 0.0, 7.0};
        for (double number : first) {
            sums.note(0, number);
        }
        for (double number : second) {
            sums.note(1, number);
        }
        // by their ranks there were 1 over 0, 2 below 3, 9 over 7
        Check.same("two less, one greater", sums.wins(0, 1), -1);
        sums.ranked(0, 0);
        sums.ranked(1, 3);
        Check.same("the same after ranked was asked", sums.wins(0, 1), -1);
        Check.same("turned round", sums.wins(1, 0), 1);
        Check.end();
    }
}

// Promise 15: "in the order in which they came". Sums that would be others, were the least or the greatest first.
public final class Promise15InOrderTest {
    public static void main(String[] args) {
        mean(1000000.0, 1e-10, -1000000.0);
        mean(1e-10, 1000000.0, -1000000.0);
        mean(1000000.0, -1000000.0, 1e-10);
        mean(-1000000.0, 1e-10, 1000000.0);
        mean(0.1, 0.2, 0.3);
        mean(0.3, 0.2, 0.1);
        mean(0.7, -0.1, 1e6, 0.3, -1e6);
        Check.end();
    }

    private static void mean(double... numbers) {
        VisualSums sums = new VisualSums(1, 1, 1);
        double sum = 0.0;
        for (double number : numbers) {
            sums.note(6, number);
            sum += number;
        }
        String what = "mean from " + numbers[0] + " to " + numbers[numbers.length - 1];
        Check.same(what, sums.mean(6), sum / numbers.length);
        Check.same("the least of them is asked", sums.ranked(6, 0) <= numbers[0], true);
        Check.same(what + " again", sums.mean(6), sum / numbers.length);
    }
}

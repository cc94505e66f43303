// Promise 16: "Of a corpus's numbers, the least first, that at place i." Rising, falling, equal ones, and full with 200.
public final class Promise16LeastFirstTest {
    public static void main(String[] args) {
        ranked(new double[] {7.0}, 7.0);
        ranked(new double[] {1.0, 2.0, 3.0}, 1.0, 2.0, 3.0);
        ranked(new double[] {3.0, 2.0, 1.0}, 1.0, 2.0, 3.0);
        ranked(new double[] {2.0, 2.0, 2.0}, 2.0, 2.0, 2.0);
        ranked(new double[] {2.0, 1.0, 2.0, 1.0}, 1.0, 1.0, 2.0, 2.0);
        ranked(new double[] {1000000.0, -0.0, -1000000.0, 0.0}, -1000000.0, 0.0, 0.0, 1000000.0);
        ranked(new double[] {-1.0, -10.0, 1.0, 10.0}, -10.0, -1.0, 1.0, 10.0);
        full();
        Check.end();
    }

    private static void ranked(double[] numbers, double... due) {
        VisualSums sums = new VisualSums(1, 1, 1);
        for (double number : numbers) {
            sums.note(0, number);
        }
        for (int i = 0; i < due.length; i++) {
            Check.same("ranked " + i + " of " + due.length + " from " + numbers[0], sums.ranked(0, i), due[i]);
        }
    }

    private static void full() {
        VisualSums sums = new VisualSums(1, 1, 1);
        for (int i = 0; i < 200; i++) {
            sums.note(7, i * 77 % 200);
        }
        for (int i = 0; i < 200; i++) {
            Check.same("ranked " + i + " of 200", sums.ranked(7, i), (double) i);
        }
    }
}

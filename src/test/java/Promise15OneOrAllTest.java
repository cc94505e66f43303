// Promise 15: "divided by how many there are". Of one number, and of 200 of them, at both ends of what may be noted.
public final class Promise15OneOrAllTest {
    public static void main(String[] args) {
        for (double v : new double[] {1000000.0, -1000000.0, 0.1, -0.1, 0.0}) {
            VisualSums sums = new VisualSums(1, 1, 1);
            sums.note(0, v);
            Check.same("mean of one " + v, sums.mean(0), v);
            double sum = v;
            for (int i = 2; i <= 200; i++) {
                sums.note(0, v);
                sum += v;
                Check.same("mean of " + i + " of " + v, sums.mean(0), sum / i);
            }
        }
        Check.end();
    }
}

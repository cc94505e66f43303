// Promise 11: "divided by the number of all neighbours in rows (0.0 without any)". One column has none, two have some.
public final class Promise11WithoutAnyTest {
    public static void main(String[] args) {
        for (int height = 1; height <= 24; height++) {
            VisualSums sums = new VisualSums(1, height, 1);
            sums.paint(true, 0, 1);
            Check.same("bands of one column of " + height, sums.bands(), 0.0);
            VisualSums two = new VisualSums(2, height, 1);
            two.put(true, 1, height - 1, 0, 1);
            Check.same("bands of two columns of " + height, two.bands(), 1.0 / height);
        }
        Check.end();
    }
}

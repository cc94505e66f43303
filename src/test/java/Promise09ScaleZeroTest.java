// Promise 9: "the MAP has those of scale 0, by the cells' middles". At the first and the last one, and after other scales.
public final class Promise09ScaleZeroTest {
    private static final double C = 426053.0;
    private static final double D = 3834474.0;

    public static void main(String[] args) {
        VisualSums sums = new VisualSums(24, 20, 1);
        sums.put(false, 2, 2, 0, 100);
        sums.put(false, 21, 17, 0, 50);
        double first = middleOf(100.0);
        double last = middleOf(50.0);
        Check.same("the first middle", sums.map(2, 2), first);
        Check.same("the last middle", sums.map(21, 17), last);
        for (int scale = 0; scale < 3; scale++) {
            sums.structure(scale);
            Check.same("the first middle after scale " + scale, sums.map(2, 2), first);
            Check.same("the last middle after scale " + scale, sums.map(21, 17), last);
        }
        Check.same("a middle far from both", sums.map(12, 10), 1.0);
        Check.same("the middle just far enough", sums.map(5, 2), 1.0);
        Check.same("the middle still near", sums.map(4, 2) < 1.0, true);
        Check.end();
    }

    // the one sample is in the middle, of weight 36, the other picture has 0
    private static double middleOf(double sample) {
        double b = 36.0 * sample;
        double q = 256.0 * 36.0 * sample * sample - b * b;
        return (C * D) / ((b * b + C) * (q + D));
    }
}

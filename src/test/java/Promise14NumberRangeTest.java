// Promise 14: "IllegalArgument: it is not -1000000 .. 1000000". Both ends are noted, the next double beyond them is not.
public final class Promise14NumberRangeTest {
    public static void main(String[] args) {
        VisualSums sums = new VisualSums(1, 1, 1);
        double[] beyond = {Math.nextUp(1000000.0), 1000000.5, 1000001.0, 2147483648.0, 4294967296.0, 1e18, Double.MAX_VALUE,
            Double.POSITIVE_INFINITY};
        for (double v : beyond) {
            Check.illegalArgument("note " + v, () -> sums.note(3, v));
            Check.illegalArgument("note " + -v, () -> sums.note(3, -v));
        }
        double[] within = {1000000.0, Math.nextDown(1000000.0), 999999.5, Double.MIN_VALUE};
        int count = 0;
        for (double v : within) {
            count++;
            Check.same("note " + v, sums.note(3, v), count);
            Check.same("it is noted as it is", sums.ranked(3, count - 1) == v || sums.ranked(3, 0) == v, true);
            Check.same("note " + -v, sums.note(4, -v), count);
        }
        Check.same("the greatest", sums.ranked(3, 3), 1000000.0);
        Check.same("the one next to it", sums.ranked(3, 2), Math.nextDown(1000000.0));
        Check.same("the least", sums.ranked(4, 0), -1000000.0);
        Check.same("the one next to 0", sums.ranked(4, 3), -Double.MIN_VALUE);
        Check.end();
    }
}

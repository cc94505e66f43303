// Promise 14: "IllegalArgument: it is not -1000000 .. 1000000, or none." What is no number at all is refused.
public final class Promise14NoNumberTest {
    public static void main(String[] args) {
        VisualSums sums = new VisualSums(1, 1, 1);
        double zero = 0.0;
        double[] none = {Double.NaN, -Double.NaN, zero / zero, Double.longBitsToDouble(0xfff8000000000001L)};
        for (double v : none) {
            Check.illegalArgument("no number", () -> sums.note(0, v));
            Check.illegalArgument("no number", () -> sums.note(7, v));
        }
        Check.illegalState("nothing was noted", () -> sums.mean(0));
        Check.same("the first number", sums.note(0, 1.0), 1);
        Check.end();
    }
}

// Promise 14: "Of several that a call names, the first one." The corpus before the number, the number before the 200.
public final class Promise14FirstOfSeveralTest {
    public static void main(String[] args) {
        VisualSums sums = new VisualSums(1, 1, 1);
        for (int i = 0; i < 200; i++) {
            sums.note(0, i);
        }
        double[] wrong = {1000000.5, -1000000.5, Double.NaN, Double.POSITIVE_INFINITY, Double.NEGATIVE_INFINITY};
        for (double v : wrong) {
            for (int corpus : Edges.NO_CORPUS) {
                Check.outOfBounds("no corpus, no number " + v, () -> sums.note(corpus, v));
            }
            Check.illegalArgument("no number " + v + ", no room", () -> sums.note(0, v));
            Check.illegalArgument("no number " + v + " alone", () -> sums.note(1, v));
        }
        Check.unsupported("no room alone", () -> sums.note(0, 1.0));
        Check.end();
    }
}

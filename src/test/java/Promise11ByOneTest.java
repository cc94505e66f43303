// Promise 11: "differ by 1, up or down, in the first picture, and not at all in the second one". 0 and 2 are no 1.
public final class Promise11ByOneTest {
    public static void main(String[] args) {
        int[] steps = {-255, -2, -1, 0, 1, 2, 255};
        for (int first : steps) {
            for (int second : steps) {
                VisualSums sums = new VisualSums(2, 1, 1);
                step(sums, true, first);
                step(sums, false, second);
                boolean gone = (first == 1 || first == -1) && second == 0;
                boolean come = (second == 1 || second == -1) && first == 0;
                double due = gone ? 1.0 : come ? -1.0 : 0.0;
                Check.same("bands of a step of " + first + ", then of " + second, sums.bands(), due);
            }
        }
        Check.end();
    }

    private static void step(VisualSums sums, boolean first, int by) {
        sums.put(first, by < 0 ? 0 : 1, 0, 0, Math.abs(by));
    }
}

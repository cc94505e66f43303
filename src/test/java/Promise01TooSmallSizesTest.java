// Promise 1: "(other numbers count as the nearest of these)". Too small ones count as 1.
public final class Promise01TooSmallSizesTest {
    public static void main(String[] args) {
        for (int n : Edges.below(1)) {
            size("width " + n, new VisualSums(n, 7, 2), 1, 7, 2);
            size("height " + n, new VisualSums(6, n, 2), 6, 1, 2);
            size("channels " + n, new VisualSums(6, 7, n), 6, 7, 1);
            size("all of them " + n, new VisualSums(n, n, n), 1, 1, 1);
        }
        size("width 0", new VisualSums(0, 24, 3), 1, 24, 3);
        Check.end();
    }

    private static void size(String what, VisualSums sums, int width, int height, int channels) {
        Check.same(what + ": told width", sums.told(0), width);
        Check.same(what + ": told height", sums.told(1), height);
        Check.same(what + ": told channels", sums.told(2), channels);
        Check.same(what + ": the last place", sums.put(true, width - 1, height - 1, channels - 1, 9), 0);
        Check.outOfBounds(what + ": no further column", () -> sums.put(true, width, 0, 0, 9));
        Check.outOfBounds(what + ": no further row", () -> sums.put(true, 0, height, 0, 9));
        Check.outOfBounds(what + ": no further channel", () -> sums.put(true, 0, 0, channels, 9));
    }
}

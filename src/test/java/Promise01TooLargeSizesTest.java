// Promise 1: "(other numbers count as the nearest of these)". Too large ones count as 24, and as 3.
public final class Promise01TooLargeSizesTest {
    public static void main(String[] args) {
        for (int n : Edges.above(24)) {
            size("width " + n, new VisualSums(n, 7, 2), 24, 7, 2);
            size("height " + n, new VisualSums(6, n, 2), 6, 24, 2);
            size("all of them " + n, new VisualSums(n, n, n), 24, 24, 3);
        }
        for (int n : Edges.above(3)) {
            size("channels " + n, new VisualSums(6, 7, n), 6, 7, 3);
        }
        Check.end();
    }

    private static void size(String what, VisualSums sums, int width, int height, int channels) {
        Check.same(what + ": told width", sums.told(0), width);
        Check.same(what + ": told height", sums.told(1), height);
        Check.same(what + ": told channels", sums.told(2), channels);
        Check.same(what + ": the last place", sums.put(false, width - 1, height - 1, channels - 1, 9), 0);
        Check.outOfBounds(what + ": no further column", () -> sums.put(false, width, 0, 0, 9));
        Check.outOfBounds(what + ": no further row", () -> sums.put(false, 0, height, 0, 9));
        Check.outOfBounds(what + ": no further channel", () -> sums.put(false, 0, 0, channels, 9));
    }
}

// Promise 1: "Both pictures have this width and height, 1 .. 24, and so many channels, 1 .. 3". Each of them is itself.
public final class Promise01SizesInRangeTest {
    public static void main(String[] args) {
        for (int side = 1; side <= 24; side++) {
            size(side, 25 - side, 1);
            size(side, side, 2);
            size(side, 24, 3);
            size(1, side, 3);
        }
        Check.end();
    }

    private static void size(int width, int height, int channels) {
        String what = width + " by " + height + " of " + channels;
        VisualSums sums = new VisualSums(width, height, channels);
        Check.same(what + ": told width", sums.told(0), width);
        Check.same(what + ": told height", sums.told(1), height);
        Check.same(what + ": told channels", sums.told(2), channels);
        for (boolean first : new boolean[] {true, false}) {
            Check.same(what + ": all samples", sums.paint(first, 1, 0), width * height * channels);
            Check.same(what + ": the first place", sums.put(first, 0, 0, 0, 1), 1);
            Check.same(what + ": the last place", sums.put(first, width - 1, height - 1, channels - 1, 1), 1);
            Check.outOfBounds(what + ": no further column", () -> sums.grey(first, width, height - 1));
            Check.outOfBounds(what + ": no further row", () -> sums.grey(first, width - 1, height));
        }
    }
}

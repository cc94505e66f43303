// Promise 13: "Whether both pictures are the same." One sample by 1, the first or the last, or hidden in grey, is enough.
public final class Promise13OneSampleTest {
    public static void main(String[] args) {
        int[][] sizes = {{1, 1, 1}, {1, 1, 3}, {24, 24, 1}, {24, 24, 3}};
        for (int[] size : sizes) {
            VisualSums sums = new VisualSums(size[0], size[1], size[2]);
            Check.same("at first", sums.equal(), true);
            differ(sums, true, 0, 0, 0);
            differ(sums, false, size[0] - 1, size[1] - 1, size[2] - 1);
            sums.paint(true, 255, 0);
            sums.paint(false, 255, 0);
            Check.same("both 255", sums.equal(), true);
            sums.put(false, size[0] - 1, size[1] - 1, size[2] - 1, 254);
            Check.same("254 at the last", sums.equal(), false);
        }
        VisualSums hidden = new VisualSums(2, 2, 3);
        hidden.put(true, 1, 1, 0, 1);
        Check.same("their grey ones are the same", hidden.grey(true, 1, 1), hidden.grey(false, 1, 1));
        Check.same("they are not", hidden.equal(), false);
        Check.end();
    }

    private static void differ(VisualSums sums, boolean first, int x, int y, int channel) {
        sums.put(first, x, y, channel, 1);
        Check.same("one sample is 1", sums.equal(), false);
        sums.put(first, x, y, channel, 0);
        Check.same("it is 0 again", sums.equal(), true);
    }
}

// Promise 1: "all their samples are 0". Those of the least and of the greatest pictures, whatever other objects hold.
public final class Promise01SamplesBeginAtZeroTest {
    public static void main(String[] args) {
        int[][] sizes = {{1, 1, 1}, {1, 24, 2}, {24, 1, 3}, {24, 24, 1}, {24, 24, 3}, {0, 25, 4}};
        for (int[] size : sizes) {
            new VisualSums(size[0], size[1], size[2]).paint(true, 200, 7);
            VisualSums sums = new VisualSums(size[0], size[1], size[2]);
            Check.same("no sample of the first one is another than 0", sums.paint(true, 0, 0), 0);
            Check.same("no sample of the second one is another than 0", sums.paint(false, 0, 0), 0);
            Check.same("the first place's grey", new VisualSums(size[0], size[1], size[2]).grey(true, 0, 0), 0);
            Check.same("the second picture's grey", new VisualSums(size[0], size[1], size[2]).grey(false, 0, 0), 0);
            Check.same("both are the same", new VisualSums(size[0], size[1], size[2]).equal(), true);
            Check.same("nothing to copy", new VisualSums(size[0], size[1], size[2]).copy(), 0);
        }
        Check.end();
    }
}

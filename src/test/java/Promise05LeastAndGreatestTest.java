// Promise 5: "the sum of squares of differences (a whole number), divided by the number of places". Least and greatest.
public final class Promise05LeastAndGreatestTest {
    public static void main(String[] args) {
        int[][] sizes = {{1, 1}, {24, 1}, {1, 24}, {24, 24}};
        for (int[] size : sizes) {
            VisualSums sums = new VisualSums(size[0], size[1], 3);
            int places = size[0] * size[1];
            Check.same("of the same", sums.squared(2), 0.0);
            sums.paint(true, 255, 0);
            Check.same("255 above", sums.squared(0), 65025.0);
            sums.copy();
            sums.paint(true, 0, 0);
            Check.same("255 below", sums.squared(2), 65025.0);
            sums.paint(true, 255, 0);
            sums.put(true, size[0] - 1, size[1] - 1, 1, 254);
            Check.same("1 at the last place", sums.squared(1), 1.0 / places);
            Check.same("not in the channel before", sums.squared(0), 0.0);
            Check.same("not in the channel behind", sums.squared(2), 0.0);
        }
        Check.end();
    }
}

// Promise 9: "IndexOutOfBounds: it is no cell's middle." Pictures of less than 5 one way have no cells at all.
public final class Promise09NoCellsTest {
    public static void main(String[] args) {
        int[][] sizes = {{1, 1}, {4, 4}, {4, 24}, {24, 4}, {1, 24}, {24, 1}, {3, 5}, {5, 3}};
        for (int[] size : sizes) {
            VisualSums sums = new VisualSums(size[0], size[1], 1);
            for (int x = 0; x < size[0]; x++) {
                for (int y = 0; y < size[1]; y++) {
                    int atX = x;
                    int atY = y;
                    Check.outOfBounds("map of " + size[0] + " by " + size[1], () -> sums.map(atX, atY));
                }
            }
        }
        Check.end();
    }
}

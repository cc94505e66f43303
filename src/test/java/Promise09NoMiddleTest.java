// Promise 9: "IndexOutOfBounds: it is no cell's middle." All places but those two and more from each side.
public final class Promise09NoMiddleTest {
    public static void main(String[] args) {
        int[][] sizes = {{5, 5}, {6, 5}, {5, 7}, {9, 8}};
        for (int[] size : sizes) {
            VisualSums sums = new VisualSums(size[0], size[1], 2);
            for (int y = -1; y <= size[1]; y++) {
                for (int x = -1; x <= size[0]; x++) {
                    int atX = x;
                    int atY = y;
                    String what = "map " + x + " " + y + " of " + size[0] + " by " + size[1];
                    if (x >= 2 && x < size[0] - 2 && y >= 2 && y < size[1] - 2) {
                        Check.same(what, sums.map(x, y), 1.0);
                    } else {
                        Check.outOfBounds(what, () -> sums.map(atX, atY));
                    }
                }
            }
        }
        Check.end();
    }
}

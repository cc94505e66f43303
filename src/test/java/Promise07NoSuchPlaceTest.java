// Promise 7: "IndexOutOfBounds: there is no such place". Beyond each side, though the next row might have such a place.
public final class Promise07NoSuchPlaceTest {
    public static void main(String[] args) {
        int[][] sizes = {{1, 1, 1}, {4, 3, 2}, {3, 4, 3}, {24, 24, 3}};
        for (int[] size : sizes) {
            VisualSums sums = new VisualSums(size[0], size[1], size[2]);
            for (boolean first : new boolean[] {true, false}) {
                for (int x : Edges.outside(0, size[0] - 1)) {
                    Check.outOfBounds("grey at column " + x, () -> sums.grey(first, x, 0));
                    Check.outOfBounds("grey at column " + x + ", last row", () -> sums.grey(first, x, size[1] - 1));
                }
                for (int y : Edges.outside(0, size[1] - 1)) {
                    Check.outOfBounds("grey at row " + y, () -> sums.grey(first, 0, y));
                    Check.outOfBounds("grey at row " + y + ", last column", () -> sums.grey(first, size[0] - 1, y));
                }
                Check.outOfBounds("grey one before", () -> sums.grey(first, -1, 1));
                Check.outOfBounds("grey one behind", () -> sums.grey(first, size[0], size[1] - 2));
                Check.same("the last place is there", sums.grey(first, size[0] - 1, size[1] - 1), 0);
            }
        }
        Check.end();
    }
}

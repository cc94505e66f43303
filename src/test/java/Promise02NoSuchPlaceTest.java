// Promise 2: "IndexOutOfBounds: there is no such place". Beyond each side, though the next row might have such a place.
public final class Promise02NoSuchPlaceTest {
    public static void main(String[] args) {
        int[][] sizes = {{1, 1, 1}, {4, 3, 2}, {3, 4, 3}, {24, 24, 3}};
        for (int[] size : sizes) {
            VisualSums sums = new VisualSums(size[0], size[1], size[2]);
            for (boolean first : new boolean[] {true, false}) {
                for (int x : Edges.outside(0, size[0] - 1)) {
                    Check.outOfBounds("put at column " + x, () -> sums.put(first, x, 0, 0, 1));
                    Check.outOfBounds("put at column " + x + ", last row", () -> sums.put(first, x, size[1] - 1, 0, 1));
                }
                for (int y : Edges.outside(0, size[1] - 1)) {
                    Check.outOfBounds("put at row " + y, () -> sums.put(first, 0, y, 0, 1));
                    Check.outOfBounds("put at row " + y + ", last column", () -> sums.put(first, size[0] - 1, y, 0, 1));
                }
                Check.outOfBounds("put one before", () -> sums.put(first, -1, 1, 0, 1));
                Check.outOfBounds("put one behind", () -> sums.put(first, size[0], size[1] - 2, 0, 1));
                Check.same("the first place is there", sums.put(first, 0, 0, 0, 0), 0);
                Check.same("the last place is there", sums.put(first, size[0] - 1, size[1] - 1, size[2] - 1, 0), 0);
            }
        }
        Check.end();
    }
}

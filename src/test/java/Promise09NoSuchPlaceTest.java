// Promise 9: "IndexOutOfBounds: there is no such place, channel, cell". Far off, and just beyond the greatest picture.
public final class Promise09NoSuchPlaceTest {
    public static void main(String[] args) {
        VisualSums sums = new VisualSums(24, 24, 1);
        for (int far : Edges.outside(2, 21)) {
            Check.outOfBounds("map " + far + " 2", () -> sums.map(far, 2));
            Check.outOfBounds("map " + far + " 21", () -> sums.map(far, 21));
            Check.outOfBounds("map 2 " + far, () -> sums.map(2, far));
            Check.outOfBounds("map 21 " + far, () -> sums.map(21, far));
            Check.outOfBounds("map " + far + " " + far, () -> sums.map(far, far));
        }
        int[] corners = {2, 21};
        for (int x : corners) {
            for (int y : corners) {
                Check.same("map " + x + " " + y, sums.map(x, y), 1.0);
            }
        }
        Check.end();
    }
}

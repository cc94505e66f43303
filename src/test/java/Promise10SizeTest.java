// Promise 10: "IllegalArgument: the size is not 2 .. 24." Below and above; 2 and 24 are sizes, of small pictures, too.
public final class Promise10SizeTest {
    public static void main(String[] args) {
        int[][] sides = {{24, 24}, {1, 1}, {2, 3}, {5, 1}};
        for (int[] side : sides) {
            VisualSums sums = new VisualSums(side[0], side[1], 1);
            for (int size : Edges.outside(2, 24)) {
                Check.illegalArgument("blocks " + size + " of width " + side[0], () -> sums.blocks(size));
            }
            for (int size = 2; size <= 24; size++) {
                Check.same("blocks " + size + " of width " + side[0], sums.blocks(size), 0.0);
            }
        }
        Check.end();
    }
}

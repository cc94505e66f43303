// Promise 8: "IllegalArgument: it is not 0 .. 4." Below and above, whatever scales there are; 0 and 4 are told.
public final class Promise08ScaleNotToldTest {
    public static void main(String[] args) {
        for (int side : new int[] {1, 4, 5, 10, 20, 24}) {
            VisualSums sums = new VisualSums(side, side, 1);
            for (int scale : Edges.outside(0, 4)) {
                Check.illegalArgument("structure " + scale + " of side " + side, () -> sums.structure(scale));
            }
            Check.illegalState("structure 4 of side " + side, () -> sums.structure(4));
        }
        Check.same("structure 0", new VisualSums(5, 5, 1).structure(0), 1.0);
        Check.illegalState("structure 0 without scales", () -> new VisualSums(4, 4, 1).structure(0));
        Check.end();
    }
}

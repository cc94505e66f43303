// Promise 8: "Of several that a call names, the first one." A scale not told comes before one that is not there.
public final class Promise08FirstOfSeveralTest {
    public static void main(String[] args) {
        VisualSums none = new VisualSums(4, 4, 1);
        for (int scale : Edges.outside(0, 4)) {
            Check.illegalArgument("structure " + scale + " without scales", () -> none.structure(scale));
        }
        for (int scale = 0; scale <= 4; scale++) {
            int asked = scale;
            Check.illegalState("structure " + scale + " without scales", () -> none.structure(asked));
        }
        Check.end();
    }
}

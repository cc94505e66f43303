// Promise 8: "IllegalState: there is no such scale". The first one that is not there, and those behind it, to 4.
public final class Promise08NoSuchScaleTest {
    public static void main(String[] args) {
        for (int side = 1; side <= 24; side++) {
            int scales = side < 5 ? 0 : side < 10 ? 1 : side < 20 ? 2 : 3;
            missing(scales, new VisualSums(side, 24, 1));
            missing(scales, new VisualSums(24, side, 2));
            missing(scales, new VisualSums(side, side, 3));
        }
        Check.end();
    }

    private static void missing(int scales, VisualSums sums) {
        String size = " of " + sums.told(0) + " by " + sums.told(1);
        for (int scale = 0; scale <= 4; scale++) {
            int asked = scale;
            if (scale < scales) {
                Check.same("structure " + scale + size, sums.structure(scale), 1.0);
            } else {
                Check.illegalState("structure " + scale + size, () -> sums.structure(asked));
            }
        }
    }
}

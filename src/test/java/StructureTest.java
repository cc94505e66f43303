/** Promises 8 and 9: structure and map. */
public final class StructureTest {
    private static final int MIN = Integer.MIN_VALUE;
    private static final int MAX = Integer.MAX_VALUE;
    private static final double C = 426053.0;
    private static final double D = 3834474.0;

    public static void main(String[] args) {
        promise8OfTheSame();
        promise8OfEvenPictures();
        promise8OfOneSample();
        promise8GoesRowByRow();
        promise8HalvesDownward();
        promise8Wrong();
        promise9WeightsFallOff();
        promise9LooksAtGrey();
        promise9Wrong();
        Check.end();
    }

    private static void promise8OfTheSame() {
        VisualSums sums = new VisualSums(24, 20, 3);
        for (int scale = 0; scale < 3; scale++) {
            Check.same("structure of nothing", sums.structure(scale), 1.0);
        }
        sums.paint(true, 3, 91);
        sums.copy();
        for (int scale = 0; scale < 3; scale++) {
            Check.same("structure of the same", sums.structure(scale), 1.0);
        }
    }

    private static void promise8OfEvenPictures() {
        VisualSums sums = new VisualSums(5, 5, 1);
        Draw.all(sums, false, 255);
        double b = 65280.0;
        Check.same("structure of black and white", sums.structure(0), (C * D) / ((b * b + C) * D));
        Draw.all(sums, true, 100);
        double a = 25600.0;
        double due = ((2.0 * (a * b) + C) * D) / ((a * a + b * b + C) * D);
        Check.same("structure of grey and white", sums.structure(0), due);
    }

    // weight of the one sample in the only cell: 36, of two pictures that differ in it only
    private static void promise8OfOneSample() {
        VisualSums sums = new VisualSums(5, 5, 1);
        sums.put(true, 2, 2, 0, 10);
        sums.put(false, 2, 2, 0, 20);
        double m = 360.0 * 720.0;
        double p = 360.0 * 360.0 + 720.0 * 720.0;
        double v = 256.0 * 7200.0 - m;
        double q = 256.0 * 3600.0 - 360.0 * 360.0 + 256.0 * 14400.0 - 720.0 * 720.0;
        double due = ((2.0 * m + C) * (2.0 * v + D)) / ((p + C) * (q + D));
        Check.same("structure of one sample", sums.structure(0), due);
        sums.put(true, 2, 2, 0, 0);
        sums.put(true, 0, 0, 0, 255);
        sums.put(false, 2, 2, 0, 255);
        m = 255.0 * 9180.0;
        p = 255.0 * 255.0 + 9180.0 * 9180.0;
        v = -m;
        q = 256.0 * 65025.0 - 255.0 * 255.0 + 256.0 * 36.0 * 65025.0 - 9180.0 * 9180.0;
        due = ((2.0 * m + C) * (2.0 * v + D)) / ((p + C) * (q + D));
        Check.same("structure below 0 is possible", sums.structure(0), due);
        Check.same("this one is", due < 0.0, true);
    }

    private static void promise8GoesRowByRow() {
        VisualSums sums = new VisualSums(11, 8, 1);
        sums.paint(true, 5, 37);
        sums.paint(false, 90, 61);
        double sum = 0.0;
        for (int y = 2; y < 6; y++) {
            for (int x = 2; x < 9; x++) {
                sum += sums.map(x, y);
            }
        }
        Check.same("structure is the map's mean", sums.structure(0), sum / 28.0);
    }

    // a scale is as the scale 0 of the pictures that were halved by hand
    private static void promise8HalvesDownward() {
        VisualSums sums = new VisualSums(23, 21, 2);
        sums.paint(true, 11, 29);
        sums.paint(false, 200, 83);
        VisualSums half = new VisualSums(11, 10, 1);
        VisualSums quarter = new VisualSums(5, 5, 1);
        for (int picture = 0; picture < 2; picture++) {
            boolean first = picture == 0;
            for (int y = 0; y < 10; y++) {
                for (int x = 0; x < 11; x++) {
                    half.put(first, x, y, 0, ofFour(sums, first, 2 * x, 2 * y));
                }
            }
            for (int y = 0; y < 5; y++) {
                for (int x = 0; x < 5; x++) {
                    quarter.put(first, x, y, 0, ofFour(half, first, 2 * x, 2 * y));
                }
            }
        }
        Check.same("structure of scale 1", sums.structure(1), half.structure(0));
        Check.same("structure of scale 2", sums.structure(2), quarter.structure(0));
        Check.same("structure of scale 1 again", sums.structure(1), half.structure(0));
        Check.same("its map stays that of scale 0", sums.map(2, 2) == quarter.map(2, 2), false);
        VisualSums rounding = new VisualSums(10, 10, 1);
        rounding.put(true, 4, 4, 0, 1);
        rounding.put(true, 5, 5, 0, 1);
        VisualSums rounded = new VisualSums(5, 5, 1);
        rounded.put(true, 2, 2, 0, 1);
        Check.same("(1 + 1 + 2) / 4 is 1", rounding.structure(1), rounded.structure(0));
        rounding.put(true, 5, 5, 0, 0);
        Check.same("(1 + 2) / 4 is 0", rounding.structure(1), 1.0);
    }

    private static int ofFour(VisualSums sums, boolean first, int x, int y) {
        return (sums.grey(first, x, y) + sums.grey(first, x + 1, y) + sums.grey(first, x, y + 1)
            + sums.grey(first, x + 1, y + 1) + 2) / 4;
    }

    private static void promise8Wrong() {
        int[][] sizesAndScales = {{4, 24, 0}, {24, 4, 0}, {5, 5, 1}, {9, 10, 1}, {10, 10, 2}, {19, 20, 2}, {20, 24, 3}, {24, 24, 3}};
        for (int[] size : sizesAndScales) {
            VisualSums sums = new VisualSums(size[0], size[1], 1);
            for (int scale : new int[] {-1, 5, MIN, MAX}) {
                Check.illegalArgument("structure " + scale, () -> sums.structure(scale));
            }
            for (int scale = size[2]; scale <= 4; scale++) {
                int missing = scale;
                Check.illegalState("structure " + scale + " of " + size[0] + " by " + size[1], () -> sums.structure(missing));
            }
            for (int scale = 0; scale < size[2]; scale++) {
                Check.same("structure of a scale that is there", sums.structure(scale), 1.0);
            }
        }
    }

    private static void promise9WeightsFallOff() {
        int[] weights = {1, 4, 6, 4, 1};
        for (int y = 0; y < 5; y++) {
            for (int x = 0; x < 5; x++) {
                VisualSums sums = new VisualSums(7, 6, 1);
                sums.put(false, x + 2, y + 1, 0, 200);
                double b = weights[x] * weights[y] * 200.0;
                double q = 256.0 * weights[x] * weights[y] * 40000.0 - b * b;
                Check.same("map with a weight at " + x + " " + y, sums.map(4, 3), (C * D) / ((b * b + C) * (q + D)));
            }
        }
        VisualSums sums = new VisualSums(7, 6, 1);
        sums.put(false, 0, 5, 0, 200);
        Check.same("map without the sample", sums.map(4, 3), 1.0);
        Check.same("map with the sample", sums.map(2, 3) < 1.0, true);
    }

    private static void promise9LooksAtGrey() {
        VisualSums sums = new VisualSums(5, 5, 3);
        sums.put(true, 2, 2, 0, 1);
        Check.same("a sample that no grey one shows", sums.map(2, 2), 1.0);
        sums.put(true, 2, 2, 0, 80);
        VisualSums grey = new VisualSums(5, 5, 1);
        grey.put(true, 2, 2, 0, 20);
        Check.same("a sample that a grey one shows", sums.map(2, 2), grey.map(2, 2));
    }

    private static void promise9Wrong() {
        VisualSums sums = new VisualSums(8, 6, 1);
        for (int y = -1; y <= 6; y++) {
            for (int x = -1; x <= 8; x++) {
                int atX = x;
                int atY = y;
                if (x >= 2 && x <= 5 && y >= 2 && y <= 3) {
                    Check.same("a cell's middle", sums.map(x, y), 1.0);
                } else {
                    Check.outOfBounds("no cell's middle: " + x + " " + y, () -> sums.map(atX, atY));
                }
            }
        }
        for (int far : new int[] {MIN, MAX, MIN + 1, MAX - 1, MIN + 2}) {
            Check.outOfBounds("map " + far + " 2", () -> sums.map(far, 2));
            Check.outOfBounds("map 2 " + far, () -> sums.map(2, far));
        }
        VisualSums thin = new VisualSums(4, 24, 1);
        Check.outOfBounds("map without cells", () -> thin.map(2, 2));
    }
}

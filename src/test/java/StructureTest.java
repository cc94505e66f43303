/** Promises 8 and 9: structure and map. */
public final class StructureTest {
    private static final double C = 426053.0;
    private static final double D = 3834474.0;

    public static void main(String[] args) {
        promise8OfTheSame();
        promise8OfEvenPictures();
        promise8OfOneSample();
        promise8GoesRowByRow();
        promise8HalvesDownward();
        promise9WeightsFallOff();
        promise9LooksAtGrey();
        Check.end();
    }

    private static void promise8OfTheSame() {
        VisualSums sums = new VisualSums(24, 20, 3);
        for (int scale = 0; scale < 3; scale++) {
            Check.same("structure of nothing", sums.structure(scale), 1.0);
        }
        sums.paint(true, 3, 91);
        sums.copy();
        for (int scale = 0; scale < 3; scale++) {
            Check.same("structure of the same", sums.structure(scale), 1.0);
        }
    }

    private static void promise8OfEvenPictures() {
        VisualSums sums = new VisualSums(5, 5, 1);
        Draw.all(sums, false, 255);
        double b = 65280.0;
        Check.same("structure of black and white", sums.structure(0), (C * D) / ((b * b + C) * D));
        Draw.all(sums, true, 100);
        double a = 25600.0;
        double due = ((2.0 * (a * b) + C) * D) / ((a * a + b * b + C) * D);
        Check.same("structure of grey and white", sums.structure(0), due);
    }

    // weight of the one sample in the only cell: 36, of two pictures that differ in it only
    private static void promise8OfOneSample() {
        VisualSums sums = new VisualSums(5, 5, 1);
        sums.put(true, 2, 2, 0, 10);
        sums.put(false, 2, 2, 0, 20);
        double m = 360.0 * 720.0;
        double p = 360.0 * 360.0 + 720.0 * 720.0;
        double v = 256.0 * 7200.0 - m;
        double q = 256.0 * 3600.0 - 360.0 * 360.0 + 256.0 * 14400.0 - 720.0 * 720.0;
        double due = ((2.0 * m + C) * (2.0 * v + D)) / ((p + C) * (q + D));
        Check.same("structure of one sample", sums.structure(0), due);
        sums.put(true, 2, 2, 0, 0);
        sums.put(true, 0, 0, 0, 255);
        sums.put(false, 2, 2, 0, 255);
        m = 255.0 * 9180.0;
        p = 255.0 * 255.0 + 9180.0 * 9180.0;
        v = -m;
        q = 256.0 * 65025.0 - 255.0 * 255.0 + 256.0 * 36.0 * 65025.0 - 9180.0 * 9180.0;
        due = ((2.0 * m + C) * (2.0 * v + D)) / ((p + C) * (q + D));
        Check.same("structure below 0 is possible", sums.structure(0), due);
        Check.same("this one is", due < 0.0, true);
    }

    private static void promise8GoesRowByRow() {
        VisualSums sums = new VisualSums(11, 8, 1);
        sums.paint(true, 5, 37);
        sums.paint(false, 90, 61);
        double sum = 0.0;
        for (int y = 2; y < 6; y++) {
            for (int x = 2; x < 9; x++) {
                sum += sums.map(x, y);
            }
        }
        Check.same("structure is the map's mean", sums.structure(0), sum / 28.0);
    }

    // a scale is as the scale 0 of the pictures that were halved by hand
    private static void promise8HalvesDownward() {
        VisualSums sums = paintedToHalve();
        VisualSums half = new VisualSums(11, 10, 1);
        VisualSums quarter = new VisualSums(5, 5, 1);
        for (int picture = 0; picture < 2; picture++) {
            boolean first = picture == 0;
            // an object of its own for each picture: one alone would have to answer more than 512 calls
            VisualSums read = paintedToHalve();
            for (int y = 0; y < 10; y++) {
                for (int x = 0; x < 11; x++) {
                    half.put(first, x, y, 0, ofFour(read, first, 2 * x, 2 * y));
                }
            }
            for (int y = 0; y < 5; y++) {
                for (int x = 0; x < 5; x++) {
                    quarter.put(first, x, y, 0, ofFour(half, first, 2 * x, 2 * y));
                }
            }
        }
        Check.same("structure of scale 1", sums.structure(1), half.structure(0));
        Check.same("structure of scale 2", sums.structure(2), quarter.structure(0));
        Check.same("structure of scale 1 again", sums.structure(1), half.structure(0));
        Check.same("its map stays that of scale 0", sums.map(2, 2) == quarter.map(2, 2), false);
        VisualSums rounding = new VisualSums(10, 10, 1);
        rounding.put(true, 4, 4, 0, 1);
        rounding.put(true, 5, 5, 0, 1);
        VisualSums rounded = new VisualSums(5, 5, 1);
        rounded.put(true, 2, 2, 0, 1);
        Check.same("(1 + 1 + 2) / 4 is 1", rounding.structure(1), rounded.structure(0));
        rounding.put(true, 5, 5, 0, 0);
        Check.same("(1 + 2) / 4 is 0", rounding.structure(1), 1.0);
    }

    private static VisualSums paintedToHalve() {
        VisualSums sums = new VisualSums(23, 21, 2);
        sums.paint(true, 11, 29);
        sums.paint(false, 200, 83);
        return sums;
    }

    private static int ofFour(VisualSums sums, boolean first, int x, int y) {
        return (sums.grey(first, x, y) + sums.grey(first, x + 1, y) + sums.grey(first, x, y + 1)
            + sums.grey(first, x + 1, y + 1) + 2) / 4;
    }

    private static void promise9WeightsFallOff() {
        int[] weights = {1, 4, 6, 4, 1};
        for (int y = 0; y < 5; y++) {
            for (int x = 0; x < 5; x++) {
                VisualSums sums = new VisualSums(7, 6, 1);
                sums.put(false, x + 2, y + 1, 0, 200);
                double b = weights[x] * weights[y] * 200.0;
                double q = 256.0 * weights[x] * weights[y] * 40000.0 - b * b;
                Check.same("map with a weight at " + x + " " + y, sums.map(4, 3), (C * D) / ((b * b + C) * (q + D)));
            }
        }
        VisualSums sums = new VisualSums(7, 6, 1);
        sums.put(false, 0, 5, 0, 200);
        Check.same("map without the sample", sums.map(4, 3), 1.0);
        Check.same("map with the sample", sums.map(2, 3) < 1.0, true);
    }

    private static void promise9LooksAtGrey() {
        VisualSums sums = new VisualSums(5, 5, 3);
        sums.put(true, 2, 2, 0, 1);
        Check.same("a sample that no grey one shows", sums.map(2, 2), 1.0);
        sums.put(true, 2, 2, 0, 80);
        VisualSums grey = new VisualSums(5, 5, 1);
        grey.put(true, 2, 2, 0, 20);
        Check.same("a sample that a grey one shows", sums.map(2, 2), grey.map(2, 2));
    }
}

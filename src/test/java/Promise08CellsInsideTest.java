// Promise 8: "A CELL is 5 by 5 places, all of them there". A sample in a corner is in one cell alone, and by weight 1.
public final class Promise08CellsInsideTest {
    private static final double C = 426053.0;
    private static final double D = 3834474.0;

    public static void main(String[] args) {
        int[][] sizes = {{5, 5}, {7, 6}, {6, 9}, {24, 24}};
        for (int[] size : sizes) {
            corner(size[0], size[1], 0, 0);
            corner(size[0], size[1], size[0] - 1, 0);
            corner(size[0], size[1], 0, size[1] - 1);
            corner(size[0], size[1], size[0] - 1, size[1] - 1);
        }
        Check.end();
    }

    private static void corner(int width, int height, int x, int y) {
        VisualSums sums = new VisualSums(width, height, 1);
        sums.put(false, x, y, 0, 200);
        double b = 200.0;
        double q = 256.0 * 200.0 * 200.0 - b * b;
        double alike = (C * D) / ((b * b + C) * (q + D));
        int leftOfIt = x == 0 ? 0 : width - 5;
        int topOfIt = y == 0 ? 0 : height - 5;
        double sum = 0.0;
        int cells = 0;
        for (int top = 0; top <= height - 5; top++) {
            for (int left = 0; left <= width - 5; left++) {
                sum += left == leftOfIt && top == topOfIt ? alike : 1.0;
                cells++;
            }
        }
        String what = "structure of " + width + " by " + height + " with " + x + " " + y;
        Check.same(what, sums.structure(0), sum / cells);
    }
}

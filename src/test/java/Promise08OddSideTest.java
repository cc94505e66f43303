// Promise 8: "half as many each way, downward". Of odd sides the last column and the last row are left out.
public final class Promise08OddSideTest {
    public static void main(String[] args) {
        int[][] sizes = {{11, 11}, {11, 10}, {10, 11}, {19, 13}};
        for (int[] size : sizes) {
            VisualSums sums = new VisualSums(size[0], size[1], 1);
            String what = "structure 1 of " + size[0] + " by " + size[1];
            for (int x = 0; x < size[0] && size[1] % 2 == 1; x++) {
                sums.put(true, x, size[1] - 1, 0, 255);
            }
            for (int y = 0; y < size[1] && size[0] % 2 == 1; y++) {
                sums.put(true, size[0] - 1, y, 0, 255);
            }
            Check.same(what + ", last ones", sums.structure(1), 1.0);
            Check.same(what + ", they count in scale 0", sums.structure(0) < 1.0, true);
            sums.put(true, size[0] / 2 * 2 - 1, size[1] / 2 * 2 - 1, 0, 255);
            Check.same(what + ", ones before the last", sums.structure(1) < 1.0, true);
        }
        twiceOdd();
        Check.end();
    }

    // 23 by 22, 11 by 11, 5 by 5: columns and rows 0 .. 19 make scale 2
    private static void twiceOdd() {
        VisualSums sums = new VisualSums(23, 22, 1);
        for (int i = 0; i < 20; i++) {
            sums.put(false, 20, i, 0, 255);
            sums.put(false, i, 20, 0, 255);
        }
        Check.same("structure 2 without the odd ones", sums.structure(2), 1.0);
        Check.same("structure 1 with them", sums.structure(1) < 1.0, true);
        sums.put(false, 19, 19, 0, 255);
        Check.same("structure 2 with its last one", sums.structure(2) < 1.0, true);
    }
}

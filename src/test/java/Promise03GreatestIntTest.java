// Promise 3: "v, then each the step more, as its rest by 256". Sums beyond the greatest int, and below the least one.
public final class Promise03GreatestIntTest {
    private static final int MIN = Integer.MIN_VALUE;
    private static final int MAX = Integer.MAX_VALUE;

    public static void main(String[] args) {
        int[][] numbers = {{MAX, 1}, {MAX, MAX}, {MIN, -1}, {MIN, MIN}, {MAX - 2, 1}, {MIN + 2, -1}, {1, MAX}, {-1, MIN}};
        for (int[] n : numbers) {
            VisualSums sums = new VisualSums(3, 2, 3);
            sums.paint(true, n[0], n[1]);
            int[] due = new int[18];
            for (int i = 0; i < due.length; i++) {
                due[i] = Math.floorMod((long) n[0] + (long) i * n[1], 256);
            }
            Painted.samples("paint " + n[0] + " " + n[1], sums, true, due);
        }
        Check.end();
    }
}

// Promise 10: "the sum of differences without sign". Steps of 255, up and down, all of one sort or of the other one.
public final class Promise10GreatestStepsTest {
    public static void main(String[] args) {
        VisualSums sums = new VisualSums(24, 20, 1);
        for (int y = 0; y < 20; y++) {
            for (int x = 0; x < 24; x++) {
                sums.put(false, x, y, 0, x / 2 % 2 == y % 2 ? 0 : 255);
            }
        }
        Check.same("blocks 2: 255 at each of them, 0 at the others", sums.blocks(2), 255.0);
        Check.same("blocks 4: half of them, and 6 of 18", sums.blocks(4), 255.0 - 255.0 * 120 / 360.0);
        VisualSums odd = new VisualSums(24, 20, 1);
        for (int y = 0; y < 20; y++) {
            for (int x = 0; x < 24; x++) {
                odd.put(false, x, y, 0, (x + 1) / 2 % 2 == y % 2 ? 255 : 0);
            }
        }
        Check.same("blocks 2: 0 at each of them, 255 at the others", odd.blocks(2), -255.0);
        Check.end();
    }
}

/** Promises 5 to 7: squared, greatest and grey. */
public final class ErrorsTest {
    public static void main(String[] args) {
        promise5Squared();
        promise6Greatest();
        promise7GreyOfOneAndTwo();
        promise7GreyOfThree();
        Check.end();
    }

    private static void promise5Squared() {
        VisualSums sums = new VisualSums(3, 2, 3);
        Check.same("squared of the same", sums.squared(1), 0.0);
        sums.put(true, 2, 1, 1, 10);
        sums.put(false, 0, 0, 1, 3);
        sums.put(true, 1, 0, 2, 4);
        sums.put(false, 1, 0, 2, 5);
        Check.same("squared 0", sums.squared(0), 0.0);
        Check.same("squared 1", sums.squared(1), 109.0 / 6.0);
        Check.same("squared 2", sums.squared(2), 1.0 / 6.0);
        VisualSums one = new VisualSums(1, 3, 1);
        one.put(true, 0, 2, 0, 2);
        one.put(false, 0, 1, 0, 3);
        Check.same("squared of one channel", one.squared(0), 13.0 / 3.0);
        VisualSums far = new VisualSums(24, 24, 2);
        Draw.all(far, false, 255);
        Check.same("the greatest squared", far.squared(0), 65025.0);
        far.put(true, 23, 23, 1, 255);
        Check.same("squared of the last channel", far.squared(1), 65025.0 * 575 / 576.0);
        Check.same("squared of the other one", far.squared(0), 65025.0);
    }

    private static void promise6Greatest() {
        VisualSums sums = new VisualSums(4, 4, 3);
        Check.same("greatest of the same", sums.greatest(), 0);
        sums.put(true, 0, 0, 0, 5);
        Check.same("greatest upward", sums.greatest(), 5);
        sums.put(false, 3, 3, 2, 9);
        Check.same("greatest downward, of the last channel", sums.greatest(), 9);
        sums.put(true, 3, 3, 2, 8);
        Check.same("greatest is the first one again", sums.greatest(), 5);
        sums.put(false, 1, 2, 1, 255);
        Check.same("the greatest there may be", sums.greatest(), 255);
    }

    private static void promise7GreyOfOneAndTwo() {
        VisualSums one = new VisualSums(2, 3, 1);
        one.put(true, 1, 2, 0, 201);
        Check.same("grey of one channel", one.grey(true, 1, 2), 201);
        Check.same("grey of the second picture", one.grey(false, 1, 2), 0);
        VisualSums two = new VisualSums(2, 3, 2);
        two.put(false, 1, 2, 0, 10);
        two.put(false, 1, 2, 1, 13);
        Check.same("grey of two channels: 24 / 2", two.grey(false, 1, 2), 12);
        two.put(false, 1, 2, 1, 14);
        Check.same("grey of two channels: 25 / 2", two.grey(false, 1, 2), 12);
        two.put(false, 0, 0, 1, 1);
        Check.same("grey of two channels: 2 / 2", two.grey(false, 0, 0), 1);
        two.paint(true, 255, 0);
        Check.same("grey of two channels: 511 / 2", two.grey(true, 0, 1), 255);
    }

    private static void promise7GreyOfThree() {
        int[][] samplesAndGrey = {{0, 0, 0, 0}, {255, 255, 255, 255}, {1, 0, 0, 0}, {1, 0, 1, 1}, {0, 1, 0, 1}, {2, 0, 0, 1},
            {0, 0, 2, 1}, {100, 0, 0, 25}, {0, 100, 0, 50}, {0, 0, 100, 25}, {1, 2, 0, 1}, {1, 2, 1, 2}, {3, 1, 0, 1}, {9, 9, 8, 9}};
        VisualSums sums = new VisualSums(3, 2, 3);
        for (int[] s : samplesAndGrey) {
            for (int channel = 0; channel < 3; channel++) {
                sums.put(true, 2, 1, channel, s[channel]);
            }
            Check.same("grey of " + s[0] + " " + s[1] + " " + s[2], sums.grey(true, 2, 1), s[3]);
        }
    }
}

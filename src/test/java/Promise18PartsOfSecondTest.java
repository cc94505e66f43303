// Promise 18: "parts of the second picture (4)". None, one, the most, 144, whatever the first picture has.
public final class Promise18PartsOfSecondTest {
    public static void main(String[] args) {
        VisualSums sums = new VisualSums(24, 24, 1);
        Check.same("all black", sums.told(4), 1);
        sums.paint(false, 255, 0);
        Check.same("none", sums.told(4), 0);
        sums.paint(false, 128, 0);
        Check.same("none of 128", sums.told(4), 0);
        sums.paint(true, 255, 0);
        for (int i = 0; i < 144; i++) {
            sums.put(false, i % 12 * 2, i / 12 * 2, 0, 127);
        }
        Check.same("the most", sums.told(4), 144);
        Check.same("the first one has none", sums.signs(true), 0);
        Check.same("the most, again", sums.told(4), 144);
        sums.copy();
        Check.same("none after copy", sums.told(4), 0);
        Check.end();
    }
}

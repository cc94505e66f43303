// Promise 6: "the greatest difference without its sign, of all channels". 0 and 255, at the first sample and the last.
public final class Promise06LeastAndGreatestTest {
    public static void main(String[] args) {
        for (int channels = 1; channels <= 3; channels++) {
            VisualSums sums = new VisualSums(24, 24, channels);
            Check.same("of the same", sums.greatest(), 0);
            sums.put(true, 0, 0, 0, 1);
            Check.same("1 above, at the first sample", sums.greatest(), 1);
            sums.put(false, 23, 23, channels - 1, 2);
            Check.same("2 below, at the last sample", sums.greatest(), 2);
            sums.put(false, 0, 0, 0, 255);
            sums.put(true, 0, 0, 0, 0);
            Check.same("255 below", sums.greatest(), 255);
            sums.put(false, 0, 0, 0, 0);
            sums.put(true, 23, 23, channels - 1, 255);
            sums.put(false, 23, 23, channels - 1, 0);
            Check.same("255 above", sums.greatest(), 255);
            sums.copy();
            Check.same("of the same again", sums.greatest(), 0);
        }
        Check.end();
    }
}

// Promise 7: "of two (a + b + 1) / 2; of three (a + 2 b + c + 2) / 4, downward". Just below a whole one, and at it.
public final class Promise07DownwardTest {
    public static void main(String[] args) {
        grey(0, 0, 0);
        grey(1, 1, 0);
        grey(1, 0, 1);
        grey(1, 1, 1);
        grey(255, 254, 255);
        grey(128, 127, 128);
        grey(127, 127, 127);
        grey(0, 0, 0, 0);
        grey(0, 1, 0, 0);
        grey(1, 0, 1, 0);
        grey(1, 1, 0, 1);
        grey(1, 2, 0, 0);
        grey(1, 1, 1, 1);
        grey(1, 1, 2, 0);
        grey(2, 1, 2, 1);
        grey(127, 127, 127, 128);
        grey(128, 128, 127, 128);
        grey(254, 255, 254, 254);
        grey(255, 255, 254, 255);
        Check.end();
    }

    private static void grey(int due, int... samples) {
        VisualSums sums = new VisualSums(2, 2, samples.length);
        for (int channel = 0; channel < samples.length; channel++) {
            sums.put(true, 1, 1, channel, samples[channel]);
            sums.put(false, 0, 1, channel, samples[channel]);
        }
        String what = "grey, the last sample " + samples[samples.length - 1];
        Check.same(what, sums.grey(true, 1, 1), due);
        Check.same(what + ", second picture", sums.grey(false, 0, 1), due);
    }
}

// Promise 12: "black is grey below 128". 127 is black, 128 is not, by the grey one and not by a single channel.
public final class Promise12BlackBelow128Test {
    public static void main(String[] args) {
        parts(1, 0);
        parts(1, 127);
        parts(0, 128);
        parts(0, 255);
        parts(1, 127, 127);
        parts(0, 127, 128);
        parts(1, 0, 254);
        parts(0, 0, 255);
        parts(1, 127, 127, 127);
        parts(0, 128, 127, 128);
        parts(1, 255, 0, 255 - 4);
        parts(0, 255, 0, 255);
        Check.end();
    }

    private static void parts(int due, int... samples) {
        VisualSums sums = new VisualSums(3, 3, samples.length);
        sums.paint(true, 255, 0);
        sums.paint(false, 255, 0);
        for (int channel = 0; channel < samples.length; channel++) {
            sums.put(true, 1, 1, channel, samples[channel]);
        }
        String what = "the last sample " + samples[samples.length - 1] + " of " + samples.length;
        Check.same("parts, " + what, sums.signs(true), due);
        Check.same("not in the second one, " + what, sums.signs(false), 0);
        sums.copy();
        Check.same("kept, " + what, sums.signs(false), due);
        Check.same("parts of the second one, " + what, sums.told(4), due);
    }
}

/** A check of all samples of a picture, place by place, of each channel by channel. */
final class Painted {
    private Painted() {
    }

    static void samples(String what, VisualSums sums, boolean first, int... due) {
        int width = sums.told(0);
        int channels = sums.told(2);
        for (int i = 0; i < due.length; i++) {
            int place = i / channels;
            int got = sums.put(first, place % width, place / width, i % channels, due[i]);
            Check.same(what + ", sample " + i, got, due[i]);
        }
    }
}

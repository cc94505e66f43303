/** Pictures of one channel drawn by signs, for the tests. */
final class Draw {
    static final int BLACK = 127;
    static final int WHITE = 128;

    private Draw() {
    }

    /** A new object of just the size of these lines; '#' is black. */
    static VisualSums signs(String[] first, String[] second) {
        VisualSums sums = new VisualSums(first[0].length(), first.length, 1);
        signsOn(sums, true, first);
        signsOn(sums, false, second);
        return sums;
    }

    static void signsOn(VisualSums sums, boolean first, String... lines) {
        for (int y = 0; y < lines.length; y++) {
            for (int x = 0; x < lines[y].length(); x++) {
                sums.put(first, x, y, 0, lines[y].charAt(x) == '#' ? BLACK : WHITE);
            }
        }
    }

    static void line(VisualSums sums, boolean first, int y, int... samples) {
        for (int x = 0; x < samples.length; x++) {
            sums.put(first, x, y, 0, samples[x]);
        }
    }

    static void all(VisualSums sums, boolean first, int sample) {
        sums.paint(first, sample, 0);
    }
}

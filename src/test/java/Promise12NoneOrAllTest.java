// Promise 12: "How many signs are KEPT; or (all) how many parts the first picture has." None, one of all places, one place.
public final class Promise12NoneOrAllTest {
    public static void main(String[] args) {
        int[][] sizes = {{1, 1}, {24, 1}, {1, 24}, {24, 24}};
        for (int[] size : sizes) {
            VisualSums sums = new VisualSums(size[0], size[1], 3);
            signs("both black", sums, 1, 1, 1);
            sums.paint(false, 255, 0);
            signs("the second one white", sums, 1, 0, 0);
            sums.paint(true, 255, 0);
            signs("both white", sums, 0, 0, 0);
            sums.paint(false, 0, 0);
            signs("the first one white", sums, 0, 0, 1);
            for (int channel = 0; channel < 3; channel++) {
                sums.put(true, size[0] - 1, size[1] - 1, channel, 0);
            }
            sums.copy();
            signs("the last place alone", sums, 1, 1, 1);
        }
        Check.end();
    }

    private static void signs(String what, VisualSums sums, int parts, int kept, int second) {
        Check.same(what + ": parts", sums.signs(true), parts);
        Check.same(what + ": kept", sums.signs(false), kept);
        Check.same(what + ": parts of the second one", sums.told(4), second);
    }
}

// Promise 12: "how many parts the first picture has". As many as there may be, 144, and one as long as it may be.
public final class Promise12MostAndLongestPartsTest {
    public static void main(String[] args) {
        VisualSums most = new VisualSums(24, 24, 1);
        most.paint(true, 255, 0);
        for (int i = 0; i < 144; i++) {
            most.put(true, i % 12 * 2 + 1, i / 12 * 2 + 1, 0, 0);
        }
        most.copy();
        Check.same("parts", most.signs(true), 144);
        Check.same("kept", most.signs(false), 144);
        most.put(false, 23, 23, 0, 255);
        Check.same("kept without the last one", most.signs(false), 143);
        longest();
        Check.end();
    }

    // one part to and fro through every other row
    private static void longest() {
        VisualSums sums = new VisualSums(24, 24, 1);
        for (int y = 1; y < 24; y += 2) {
            int open = y % 4 == 1 ? 23 : 0;
            for (int x = 0; x < 24; x++) {
                sums.put(true, x, y, 0, x == open ? 0 : 255);
            }
        }
        Check.same("parts to and fro", sums.signs(true), 1);
        sums.copy();
        Check.same("kept to and fro", sums.signs(false), 1);
        sums.put(false, 0, 0, 0, 255);
        Check.same("not kept without its first place", sums.signs(false), 0);
        Check.same("it is one part still", sums.told(4), 1);
        sums.put(false, 0, 11, 0, 255);
        Check.same("it is two parts, if it is torn", sums.told(4), 2);
    }
}

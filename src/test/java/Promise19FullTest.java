// Promise 19: "All is as at first." The greatest pictures and full corpora; the size stays as the object was made.
public final class Promise19FullTest {
    public static void main(String[] args) {
        VisualSums sums = new VisualSums(99, 24, 99);
        sums.paint(true, 255, 0);
        sums.paint(false, 1, 0);
        for (int i = 0; i < 200; i++) {
            sums.note(0, i);
            sums.note(7, -i);
        }
        sums.clear();
        int[] size = {24, 24, 3, 3, 1};
        for (int what = 0; what <= 4; what++) {
            Check.same("told " + what, sums.told(what), size[what]);
        }
        Check.same("no sample of the first one is another than 0", sums.paint(true, 0, 0), 0);
        Check.same("no sample of the second one is another than 0", sums.paint(false, 0, 0), 0);
        Check.illegalState("nothing noted for 0", () -> sums.mean(0));
        Check.outOfBounds("nothing noted for 7", () -> sums.ranked(7, 0));
        Check.same("no place of both", sums.wins(0, 7), 0);
        Check.same("the first note of 0", sums.note(0, 3.0), 1);
        Check.same("the first note of 7", sums.note(7, 2.0), 1);
        Check.same("the one place of both", sums.wins(0, 7), 1);
        Check.outOfBounds("the second note of before is gone", () -> sums.ranked(0, 1));
        Check.end();
    }
}

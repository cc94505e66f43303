// Promise 16: "IndexOutOfBounds: there is no such place, channel, cell, corpus, or note." Of no note, one, two and 200.
public final class Promise16NoSuchNoteTest {
    public static void main(String[] args) {
        VisualSums sums = new VisualSums(1, 1, 1);
        for (int count = 0; count <= 200; count++) {
            if (count < 3 || count > 198) {
                missing(sums, count);
            }
            if (count < 200) {
                sums.note(5, -count);
            }
        }
        sums.clear();
        Check.outOfBounds("ranked after clear", () -> sums.ranked(5, 0));
        Check.end();
    }

    private static void missing(VisualSums sums, int count) {
        for (int i : Edges.outside(0, count - 1)) {
            Check.outOfBounds("ranked " + i + " of " + count, () -> sums.ranked(5, i));
            Check.outOfBounds("ranked " + i + " of none", () -> sums.ranked(4, i));
        }
        if (count > 0) {
            Check.same("ranked 0 of " + count, sums.ranked(5, 0), 1.0 - count);
            Check.same("the last one of " + count, sums.ranked(5, count - 1), 0.0);
        }
    }
}

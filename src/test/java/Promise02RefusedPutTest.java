// Promise 2: "A call that throws changes nothing." A refused put leaves all samples, and all else.
public final class Promise02RefusedPutTest {
    public static void main(String[] args) {
        VisualSums sums = new VisualSums(5, 5, 1);
        sums.paint(true, 50, 3);
        sums.paint(false, 80, 9);
        sums.note(0, 1.5);
        String before = Seen.of(sums);
        for (boolean first : new boolean[] {true, false}) {
            Check.outOfBounds("no column", () -> sums.put(first, 5, 2, 0, 1));
            Check.outOfBounds("no column", () -> sums.put(first, -1, 2, 0, 1));
            Check.outOfBounds("no row", () -> sums.put(first, 2, 5, 0, 1));
            Check.outOfBounds("no channel", () -> sums.put(first, 2, 2, 1, 1));
            Check.illegalArgument("no sample", () -> sums.put(first, 2, 2, 0, -1));
            Check.illegalArgument("no sample", () -> sums.put(first, 4, 4, 0, 256));
        }
        Check.same("all is as before", Seen.of(sums), before);
        Check.end();
    }
}

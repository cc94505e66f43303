// Promise 2: "Of several that a call names, the first one." A place or channel that is none comes before the sample.
public final class Promise02FirstOfSeveralTest {
    public static void main(String[] args) {
        VisualSums sums = new VisualSums(4, 3, 2);
        for (int v : Edges.outside(0, 255)) {
            Check.outOfBounds("no column, no sample " + v, () -> sums.put(true, 4, 0, 0, v));
            Check.outOfBounds("no row, no sample " + v, () -> sums.put(true, 0, 3, 0, v));
            Check.outOfBounds("no channel, no sample " + v, () -> sums.put(false, 0, 0, 2, v));
            Check.outOfBounds("nothing, no sample " + v, () -> sums.put(false, -1, -1, -1, v));
            Check.illegalArgument("no sample " + v + " alone", () -> sums.put(false, 0, 0, 0, v));
        }
        Check.end();
    }
}

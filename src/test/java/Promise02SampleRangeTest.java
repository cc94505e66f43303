// Promise 2: "samples are 0 .. 255", "IllegalArgument: another number is none that is told."
public final class Promise02SampleRangeTest {
    public static void main(String[] args) {
        VisualSums sums = new VisualSums(4, 3, 2);
        for (boolean first : new boolean[] {true, false}) {
            for (int v : Edges.outside(0, 255)) {
                Check.illegalArgument("put " + v, () -> sums.put(first, 3, 2, 1, v));
                Check.illegalArgument("put " + v + " at the first place", () -> sums.put(first, 0, 0, 0, v));
            }
            for (int v : new int[] {0, 255, 1, 254, 127, 128}) {
                sums.put(first, 3, 2, 1, v);
                Check.same("put " + v + " is taken", sums.put(first, 3, 2, 1, v), v);
            }
        }
        Check.end();
    }
}

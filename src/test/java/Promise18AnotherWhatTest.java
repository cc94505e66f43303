// Promise 18: "NONE for another what." Below 0 and above 4; NONE is -1.
public final class Promise18AnotherWhatTest {
    public static void main(String[] args) {
        VisualSums sums = new VisualSums(6, 7, 2);
        for (int what : Edges.outside(0, 4)) {
            Check.same("told " + what, sums.told(what), -1);
            Check.same("told " + what + " is NONE", sums.told(what), VisualSums.NONE);
        }
        int[] due = {6, 7, 2, 1, 1};
        for (int what = 0; what <= 4; what++) {
            Check.same("told " + what, sums.told(what), due[what]);
        }
        Check.end();
    }
}

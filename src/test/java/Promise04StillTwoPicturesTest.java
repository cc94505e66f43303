// Promise 4: "The second picture is the first one". So it is then; what is put later goes to one of them.
public final class Promise04StillTwoPicturesTest {
    public static void main(String[] args) {
        VisualSums sums = new VisualSums(3, 2, 1);
        sums.paint(true, 10, 1);
        sums.paint(false, 90, 5);
        Check.same("copy", sums.copy(), 6);
        Painted.samples("the first one stays", sums, true, 10, 11, 12, 13, 14, 15);
        Painted.samples("the second one is the first one", sums, false, 10, 11, 12, 13, 14, 15);
        sums.put(true, 0, 0, 0, 200);
        Check.same("put in the first one alone", sums.grey(false, 0, 0), 10);
        sums.put(false, 2, 1, 0, 100);
        Check.same("put in the second one alone", sums.grey(true, 2, 1), 15);
        Check.same("these two changed", sums.copy(), 2);
        Check.end();
    }
}

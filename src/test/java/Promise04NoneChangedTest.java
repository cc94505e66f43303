// Promise 4: "how many samples changed". None, where both are the same.
public final class Promise04NoneChangedTest {
    public static void main(String[] args) {
        VisualSums sums = new VisualSums(7, 5, 3);
        Check.same("of a new object", sums.copy(), 0);
        sums.paint(true, 9, 4);
        sums.paint(false, 9, 4);
        Check.same("of two painted alike", sums.copy(), 0);
        sums.paint(true, 1, 1);
        sums.copy();
        Check.same("a second time", sums.copy(), 0);
        sums.put(true, 6, 4, 2, 0);
        sums.put(false, 6, 4, 2, 0);
        Check.same("with one put alike", sums.copy(), 0);
        Check.end();
    }
}

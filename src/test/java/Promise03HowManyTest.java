// Promise 3: "how many are other ones". None, one, all but one, and all.
public final class Promise03HowManyTest {
    public static void main(String[] args) {
        VisualSums sums = new VisualSums(24, 24, 3);
        for (boolean first : new boolean[] {true, false}) {
            Check.same("none", sums.paint(first, 0, 0), 0);
            Check.same("all", sums.paint(first, 255, 0), 1728);
            Check.same("none again", sums.paint(first, 255, 0), 0);
            Check.same("none by rests", sums.paint(first, -1, 256), 0);
            sums.put(first, 23, 23, 2, 0);
            Check.same("the last one", sums.paint(first, 255, 0), 1);
            sums.put(first, 0, 0, 0, 0);
            Check.same("the first one", sums.paint(first, 255, 0), 1);
            sums.put(first, 11, 7, 1, 4);
            Check.same("all but one", sums.paint(first, 4, 0), 1727);
        }
        VisualSums one = new VisualSums(1, 1, 1);
        Check.same("the only one", one.paint(true, 1, 1), 1);
        Check.same("the only one is it", one.paint(true, 1, 77), 0);
        Check.same("the other picture was not painted", one.paint(false, 0, 0), 0);
        Check.end();
    }
}

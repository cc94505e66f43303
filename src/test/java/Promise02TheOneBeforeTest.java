// Promise 2: "A sample of the first picture, or of the second one: the one before." At first, again, and at both ends.
public final class Promise02TheOneBeforeTest {
    public static void main(String[] args) {
        VisualSums sums = new VisualSums(3, 2, 2);
        for (boolean first : new boolean[] {true, false}) {
            Check.same("at first there was 0", sums.put(first, 2, 1, 1, 255), 0);
            Check.same("then 255", sums.put(first, 2, 1, 1, 255), 255);
            Check.same("255 again", sums.put(first, 2, 1, 1, 0), 255);
            Check.same("then 0", sums.put(first, 2, 1, 1, 0), 0);
            Check.same("0 again", sums.put(first, 2, 1, 1, 128), 0);
        }
        Check.same("the first one's own", sums.put(true, 2, 1, 1, 7), 128);
        Check.same("the second one's own", sums.put(false, 2, 1, 1, 9), 128);
        Check.same("the first one's own, again", sums.put(true, 2, 1, 1, 0), 7);
        Check.same("the second one's own, again", sums.put(false, 2, 1, 1, 0), 9);
        Check.same("the channel before is another one", sums.put(true, 2, 1, 0, 1), 0);
        Check.same("the place before is another one", sums.put(true, 1, 1, 1, 1), 0);
        Check.end();
    }
}

// Promise 8: "each further one half as many each way". A scale is made of the one before, as that one was rounded.
public final class Promise08TwiceHalvedTest {
    public static void main(String[] args) {
        VisualSums sums = new VisualSums(20, 20, 1);
        sums.paint(true, 100, 0);
        sums.paint(false, 100, 0);
        // of these fours, two are 100 by their own rounding, and two are 101: then 402 + 2, by 4, is 101
        int[][] places = {{8, 8}, {10, 8}, {8, 10}, {10, 10}};
        int[] due = {100, 100, 101, 101};
        for (int i = 0; i < places.length; i++) {
            sums.put(true, places[i][0], places[i][1], 0, due[i] == 100 ? 101 : 102);
        }
        VisualSums twice = new VisualSums(5, 5, 1);
        twice.paint(true, 100, 0);
        twice.paint(false, 100, 0);
        twice.put(true, 2, 2, 0, 101);
        Check.same("structure 2", sums.structure(2), twice.structure(0));
        Check.same("structure 2 is not of the same", sums.structure(2) < 1.0, true);
        sums.put(true, 10, 10, 0, 101);
        Check.same("structure 2 of 401 + 2", sums.structure(2), 1.0);
        Check.same("structure 1 tells it yet", sums.structure(1) < 1.0, true);
        Check.end();
    }
}

// Promise 8: "there are as many scales as have 5 or more each way". Sides of 4 and 5, of 9 and 10, of 19 and 20.
public final class Promise08FiveOrMoreTest {
    public static void main(String[] args) {
        int[][] sidesAndScales = {{1, 0}, {4, 0}, {5, 1}, {9, 1}, {10, 2}, {11, 2}, {19, 2}, {20, 3}, {23, 3}, {24, 3}};
        for (int[] side : sidesAndScales) {
            Check.same("scales of width " + side[0], new VisualSums(side[0], 24, 1).told(3), side[1]);
            Check.same("scales of height " + side[0], new VisualSums(24, side[0], 1).told(3), side[1]);
            Check.same("scales of both " + side[0], new VisualSums(side[0], side[0], 3).told(3), side[1]);
        }
        Check.same("scales of the least", new VisualSums(0, 0, 0).told(3), 0);
        Check.same("scales of the greatest", new VisualSums(99, 99, 99).told(3), 3);
        Check.end();
    }
}

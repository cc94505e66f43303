// Promise 3: "v, then each the step more, as its rest by 256", as "samples are 0 .. 255". Before 0 comes 255.
public final class Promise03BelowZeroTest {
    public static void main(String[] args) {
        painted(-1, 0, 255, 255, 255, 255, 255, 255);
        painted(1, -1, 1, 0, 255, 254, 253, 252);
        painted(-255, -1, 1, 0, 255, 254, 253, 252);
        painted(-256, 0, 0, 0, 0, 0, 0, 0);
        painted(-257, 1, 255, 0, 1, 2, 3, 4);
        painted(5, -256, 5, 5, 5, 5, 5, 5);
        painted(-2, 1, 254, 255, 0, 1, 2, 3);
        Check.end();
    }

    private static void painted(int v, int step, int... due) {
        VisualSums sums = new VisualSums(3, 2, 1);
        sums.paint(false, v, step);
        Painted.samples("paint " + v + " " + step, sums, false, due);
    }
}

// Promise 3: "v, then each the step more, as its rest by 256". Behind 255 comes 0 again.
public final class Promise03RestBy256Test {
    public static void main(String[] args) {
        painted(254, 1, 254, 255, 0, 1, 2, 3);
        painted(255, 1, 255, 0, 1, 2, 3, 4);
        painted(256, 0, 0, 0, 0, 0, 0, 0);
        painted(511, 257, 255, 0, 1, 2, 3, 4);
        painted(0, 255, 0, 255, 254, 253, 252, 251);
        painted(10, 256, 10, 10, 10, 10, 10, 10);
        painted(0, 128, 0, 128, 0, 128, 0, 128);
        painted(100, 100, 100, 200, 44, 144, 244, 88);
        Check.end();
    }

    private static void painted(int v, int step, int... due) {
        VisualSums sums = new VisualSums(3, 2, 1);
        sums.paint(true, v, step);
        Painted.samples("paint " + v + " " + step, sums, true, due);
    }
}

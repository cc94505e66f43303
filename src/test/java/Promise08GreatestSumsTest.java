// Promise 8: "all whole numbers. Its STRUCTURE, these being doubles then". Of 255 all over they are beyond an int.
public final class Promise08GreatestSumsTest {
    private static final double C = 426053.0;
    private static final double D = 3834474.0;

    public static void main(String[] args) {
        even(255, 255);
        even(255, 254);
        even(128, 255);
        even(0, 255);
        even(0, 1);
        even(1, 0);
        even(181, 182);
        halfAndHalf(true);
        halfAndHalf(false);
        Check.end();
    }

    // without any change inside, v and q are 0
    private static void even(int first, int second) {
        VisualSums sums = new VisualSums(5, 5, 1);
        sums.paint(true, first, 0);
        sums.paint(false, second, 0);
        double a = 256.0 * first;
        double b = 256.0 * second;
        double due = ((2.0 * (a * b) + C) * D) / ((a * a + b * b + C) * D);
        Check.same("structure of " + first + " and " + second, sums.structure(0), due);
    }

    // 0 and 255 in turn: the second picture is the first one, or has 255 and 0
    private static void halfAndHalf(boolean same) {
        VisualSums sums = new VisualSums(5, 5, 1);
        for (int i = 0; i < 25; i++) {
            sums.put(true, i % 5, i / 5, 0, i % 2 * 255);
            sums.put(false, i % 5, i / 5, 0, (same ? i % 2 : 1 - i % 2) * 255);
        }
        // the even places weigh 128, the odd ones 128
        double half = 128.0 * 255.0;
        double product = half * half;
        double squares = 256.0 * 128.0 * 65025.0;
        double v = same ? squares - product : -product;
        double q = 2.0 * (squares - product);
        double due = ((2.0 * product + C) * (2.0 * v + D)) / ((2.0 * product + C) * (q + D));
        Check.same("structure of 0 and 255 in turn", sums.structure(0), due);
        Check.same("it is below 0, if they are turned round", sums.structure(0) < 0.0, !same);
    }
}

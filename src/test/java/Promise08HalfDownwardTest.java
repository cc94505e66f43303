// Promise 8: "(a + b + c + d + 2) / 4, downward, of four side by side". Just below a whole one, and at it.
public final class Promise08HalfDownwardTest {
    public static void main(String[] args) {
        half(0, 1, 0, 0, 0);
        half(1, 1, 1, 0, 0);
        half(1, 0, 1, 1, 0);
        half(1, 0, 0, 1, 1);
        half(1, 1, 0, 0, 1);
        half(0, 0, 0, 1, 0);
        half(1, 1, 1, 2, 1);
        half(2, 1, 2, 2, 1);
        half(64, 255, 0, 0, 0);
        half(64, 0, 0, 0, 255);
        half(254, 255, 255, 255, 252);
        half(255, 255, 255, 255, 253);
        half(255, 255, 255, 255, 255);
        Check.end();
    }

    private static void half(int due, int a, int b, int c, int d) {
        for (int y = 0; y < 5; y++) {
            for (int x = 0; x < 5; x++) {
                halfAt(x, y, due, a, b, c, d);
            }
        }
    }

    // the halved picture is, of scale 0, just as alike
    private static void halfAt(int x, int y, int due, int a, int b, int c, int d) {
        VisualSums sums = new VisualSums(10, 10, 1);
        sums.paint(true, 100, 0);
        sums.paint(false, 30, 0);
        sums.put(true, 2 * x, 2 * y, 0, a);
        sums.put(true, 2 * x + 1, 2 * y, 0, b);
        sums.put(true, 2 * x, 2 * y + 1, 0, c);
        sums.put(true, 2 * x + 1, 2 * y + 1, 0, d);
        VisualSums halved = new VisualSums(5, 5, 1);
        halved.paint(true, 100, 0);
        halved.paint(false, 30, 0);
        halved.put(true, x, y, 0, due);
        Check.same("half of " + a + " " + b + " " + c + " " + d + " at " + x + " " + y, sums.structure(1), halved.structure(0));
    }
}

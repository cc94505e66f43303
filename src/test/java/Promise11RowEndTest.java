// Promise 11: "neighbours in rows". The end of a row and the next row's start are none, nor are those above and below.
public final class Promise11RowEndTest {
    public static void main(String[] args) {
        VisualSums sums = new VisualSums(5, 4, 1);
        for (int y = 0; y < 4; y++) {
            Draw.line(sums, true, y, y, y, y, y, y);
        }
        Check.same("bands of even rows", sums.bands(), 0.0);
        sums.paint(false, 3, 40);
        Check.same("bands of even rows, and steps of 40", sums.bands(), 0.0);
        sums.paint(false, 9, 0);
        sums.put(true, 4, 3, 0, 4);
        Check.same("bands: the last two places", sums.bands(), 1.0 / 16.0);
        sums.put(true, 0, 0, 0, 1);
        Check.same("bands: the first two places, too", sums.bands(), 2.0 / 16.0);
        Check.end();
    }
}

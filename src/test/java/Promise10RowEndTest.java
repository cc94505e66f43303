// Promise 10: "neighbours in rows". The end of a row and the next row's start are none, nor are those above and below.
public final class Promise10RowEndTest {
    public static void main(String[] args) {
        VisualSums rows = new VisualSums(5, 4, 1);
        for (int y = 0; y < 4; y++) {
            Draw.line(rows, false, y, 60 * y, 60 * y, 60 * y, 60 * y, 60 * y);
        }
        for (int size = 2; size <= 24; size++) {
            Check.same("blocks " + size + " of even rows", rows.blocks(size), 0.0);
        }
        rows.paint(true, 0, 99);
        Check.same("blocks 2 does not look at the first picture", rows.blocks(2), 0.0);
        Check.end();
    }
}

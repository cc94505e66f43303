// Promise 10: "0.0, if there are none of one sort." No right one at such a column, or no neighbours in rows at all.
public final class Promise10NoneOfOneSortTest {
    public static void main(String[] args) {
        for (int width = 1; width <= 24; width++) {
            VisualSums sums = new VisualSums(width, 3, 1);
            sums.paint(false, 7, 50);
            for (int size = Math.max(2, width); size <= 24; size++) {
                Check.same("blocks " + size + " of width " + width, sums.blocks(size), 0.0);
            }
        }
        VisualSums one = new VisualSums(1, 24, 1);
        one.paint(false, 0, 99);
        Check.same("one column has no neighbours in rows", one.blocks(2), 0.0);
        VisualSums two = new VisualSums(2, 1, 1);
        Draw.line(two, false, 0, 0, 255);
        Check.same("two columns have the other sort alone", two.blocks(2), 0.0);
        VisualSums three = new VisualSums(3, 1, 1);
        Draw.line(three, false, 0, 0, 30, 255);
        Check.same("one of each sort is enough", three.blocks(2), 195.0);
        Check.same("at 3 there is no column of three", three.blocks(3), 0.0);
        Check.end();
    }
}

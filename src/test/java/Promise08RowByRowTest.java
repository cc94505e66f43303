// Promise 8: "Sums of doubles begin with 0.0, and go row by row, in each row from the left, one after the other."
public final class Promise08RowByRowTest {
    public static void main(String[] args) {
        int orders = 0;
        for (int seed = 0; seed < 20; seed++) {
            VisualSums sums = new VisualSums(13, 11, 1);
            sums.paint(true, seed, 37 + 2 * seed);
            sums.paint(false, 90, 61 + 6 * seed);
            double byRows = 0.0;
            double byColumns = 0.0;
            for (int i = 0; i < 63; i++) {
                byRows += sums.map(2 + i % 9, 2 + i / 9);
                byColumns += sums.map(2 + i / 7, 2 + i % 7);
            }
            orders += byRows == byColumns ? 0 : 1;
            Check.same("structure row by row, seed " + seed, sums.structure(0), byRows / 63.0);
        }
        Check.same("the order is seen in some of them", orders > 0, true);
        Check.end();
    }
}

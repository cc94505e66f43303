// Promise 10: "at whose right one the column (from 0) is divided by n". The last column alone; column 0 is no right one.
public final class Promise10LastColumnTest {
    public static void main(String[] args) {
        for (int size = 2; size <= 23; size++) {
            VisualSums sums = new VisualSums(size + 1, 2, 1);
            sums.put(false, size, 0, 0, 100);
            Check.same("blocks " + size + ": a step to the last column", sums.blocks(size), 50.0);
            sums.put(false, size, 0, 0, 0);
            sums.put(false, 0, 1, 0, 100);
            Check.same("blocks " + size + ": a step to column 1", sums.blocks(size), 0.0 - 100.0 / (2 * (size - 1)));
        }
        VisualSums all = new VisualSums(24, 1, 1);
        for (int x = 0; x < 24; x++) {
            all.put(false, x, 0, 0, x / 8 * 40);
        }
        Check.same("blocks 8: all steps at 8 and 16", all.blocks(8), 40.0);
        Check.same("blocks 16: one of them", all.blocks(16), 40.0 - 40.0 / 22.0);
        Check.same("blocks 9: none of them", all.blocks(9), 0.0 - 80.0 / 21.0);
        Check.end();
    }
}

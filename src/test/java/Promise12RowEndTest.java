// Promise 12: "hang together by sides and corners". The end of a row does not hang together with the start of another.
public final class Promise12RowEndTest {
    public static void main(String[] args) {
        for (int width = 3; width <= 24; width++) {
            for (int y = 0; y < 3; y++) {
                for (int other = 0; other < 3; other++) {
                    VisualSums sums = new VisualSums(width, 3, 1);
                    sums.paint(true, 255, 0);
                    sums.put(true, width - 1, y, 0, 0);
                    sums.put(true, 0, other, 0, 0);
                    Check.same("parts at the end of " + y + ", at the start of " + other, sums.signs(true), 2);
                }
            }
        }
        VisualSums high = new VisualSums(2, 24, 1);
        high.paint(true, 255, 0);
        high.put(true, 0, 0, 0, 0);
        high.put(true, 1, 23, 0, 0);
        Check.same("parts in the first row and in the last one", high.signs(true), 2);
        Check.end();
    }
}

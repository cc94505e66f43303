// Promise 3: "place by place, of each channel by channel". Behind the last channel, and behind the end of a row.
public final class Promise03RowEndTest {
    public static void main(String[] args) {
        VisualSums sums = new VisualSums(3, 2, 2);
        sums.paint(true, 10, 1);
        Check.same("the first place, channel 0", sums.put(true, 0, 0, 0, 0), 10);
        Check.same("the first place, channel 1", sums.put(true, 0, 0, 1, 0), 11);
        Check.same("the next one in the row, channel 0", sums.put(true, 1, 0, 0, 0), 12);
        Check.same("the row's last one, channel 1", sums.put(true, 2, 0, 1, 0), 15);
        Check.same("the next row's first one, channel 0", sums.put(true, 0, 1, 0, 0), 16);
        Check.same("the last place, channel 1", sums.put(true, 2, 1, 1, 0), 21);
        VisualSums down = new VisualSums(1, 3, 1);
        down.paint(false, 10, 1);
        Painted.samples("one column", down, false, 10, 11, 12);
        VisualSums across = new VisualSums(3, 1, 1);
        across.paint(false, 10, 1);
        Painted.samples("one row", across, false, 10, 11, 12);
        Check.end();
    }
}

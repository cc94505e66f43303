// Promise 11: "less those the other way round". All of one sort, all of the other one, and as many of both.
public final class Promise11OtherWayRoundTest {
    public static void main(String[] args) {
        VisualSums sums = new VisualSums(24, 24, 1);
        sums.paint(true, 0, 1);
        // 24 in a row, the rest by 256 drops within rows: at those places the step is 255
        int dropped = 0;
        for (int i = 1; i < 576; i++) {
            dropped += i % 256 == 0 && i % 24 != 0 ? 1 : 0;
        }
        Check.same("bands: all but the drops are gone", sums.bands(), (552.0 - dropped) / 552.0);
        sums.copy();
        Check.same("bands: none is gone, none has come", sums.bands(), 0.0);
        sums.paint(true, 9, 0);
        Check.same("bands: all but the drops have come", sums.bands(), (dropped - 552.0) / 552.0);
        VisualSums both = new VisualSums(3, 1, 1);
        Draw.line(both, true, 0, 5, 6, 6);
        Draw.line(both, false, 0, 5, 5, 4);
        Check.same("bands: one is gone, one has come", both.bands(), 0.0);
        Check.end();
    }
}

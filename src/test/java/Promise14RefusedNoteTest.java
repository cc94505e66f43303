// Promise 14: "A call that throws changes nothing." A refused note leaves all numbers, their order and their count.
public final class Promise14RefusedNoteTest {
    public static void main(String[] args) {
        VisualSums sums = new VisualSums(5, 5, 1);
        sums.paint(true, 3, 7);
        sums.note(0, 4.0);
        sums.note(0, -2.5);
        sums.note(7, 1.0);
        String before = Seen.of(sums);
        for (double v : new double[] {Double.NaN, 1000001.0, -1000001.0}) {
            Check.illegalArgument("no number for 0", () -> sums.note(0, v));
            Check.illegalArgument("no number for 3", () -> sums.note(3, v));
            Check.outOfBounds("no corpus", () -> sums.note(8, v));
            Check.outOfBounds("no corpus", () -> sums.note(-1, 1.0));
        }
        Check.same("all is as before", Seen.of(sums), before);
        Check.same("the next note", sums.note(0, 1.0), 3);
        full();
        Check.end();
    }

    private static void full() {
        VisualSums sums = new VisualSums(1, 1, 1);
        double sum = 0.0;
        for (int i = 0; i < 200; i++) {
            sums.note(1, 0.1 * i);
            sums.note(2, 5.0);
            sum += 0.1 * i;
        }
        int wins = sums.wins(1, 2);
        Check.unsupported("no room for one below all", () -> sums.note(1, -7.0));
        Check.unsupported("no room for one above all", () -> sums.note(1, 1000.0));
        Check.same("the mean is as before", sums.mean(1), sum / 200.0);
        Check.same("the least is as before", sums.ranked(1, 0), 0.0);
        Check.same("the next one is as before", sums.ranked(1, 1), 0.1);
        Check.same("the greatest is as before", sums.ranked(1, 199), 0.1 * 199);
        Check.same("the wins are as before", sums.wins(1, 2), wins);
        Check.outOfBounds("there is no 201st", () -> sums.ranked(1, 200));
    }
}

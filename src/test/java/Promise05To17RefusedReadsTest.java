// Promises 5, 7 to 10, 15 to 17: "A call that throws changes nothing." Refused reads leave samples, scales and numbers.
public final class Promise05To17RefusedReadsTest {
    public static void main(String[] args) {
        VisualSums sums = new VisualSums(5, 5, 1);
        sums.paint(true, 50, 33);
        sums.paint(false, 80, 9);
        sums.note(0, 3.5);
        sums.note(0, -1.0);
        String before = Seen.of(sums);
        Check.outOfBounds("squared", () -> sums.squared(1));
        Check.outOfBounds("grey", () -> sums.grey(true, 5, 0));
        Check.outOfBounds("grey", () -> sums.grey(false, 0, -1));
        Check.illegalArgument("structure", () -> sums.structure(5));
        Check.illegalState("structure", () -> sums.structure(1));
        Check.outOfBounds("map", () -> sums.map(1, 2));
        Check.illegalArgument("blocks", () -> sums.blocks(25));
        Check.outOfBounds("mean", () -> sums.mean(8));
        Check.illegalState("mean", () -> sums.mean(1));
        Check.outOfBounds("ranked", () -> sums.ranked(8, 0));
        Check.outOfBounds("ranked", () -> sums.ranked(0, 2));
        Check.outOfBounds("wins", () -> sums.wins(0, 8));
        Check.same("all is as before", Seen.of(sums), before);
        Check.end();
    }
}

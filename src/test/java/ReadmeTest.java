/** The example of README.md: the calls as they stand there, with the answers that it tells. */
public final class ReadmeTest {
    public static void main(String[] args) {
        VisualSums sums = new VisualSums(24, 24, 3);
        Check.same("paint", sums.paint(true, 7, 5), 1721);
        Check.same("copy", sums.copy(), 1721);
        Check.same("structure of the same", sums.structure(2), 1.0);
        Check.same("put", sums.put(false, 3, 4, 1, 20), 217);
        Check.same("equal", sums.equal(), false);
        Check.same("greatest", sums.greatest(), 197);
        Check.same("squared 1", sums.squared(1), 38809.0 / 576.0);
        Check.same("squared 0", sums.squared(0), 0.0);
        Check.same("scales", sums.told(3), 3);
        double alike = sums.structure(2);
        Check.same("structure below 1.0", alike < 1.0, true);
        Check.same("the first note", sums.note(0, alike), 1);
        Check.same("the second note", sums.note(0, 0.25), 2);
        Check.same("ranked", sums.ranked(0, 0), 0.25);
        Check.same("mean", sums.mean(0), (alike + 0.25) / 2.0);
        Check.end();
    }
}

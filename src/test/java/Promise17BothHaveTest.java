// Promise 17: "Of all places that two corpora both have". One is longer, one is empty, both are empty, both are full.
public final class Promise17BothHaveTest {
    public static void main(String[] args) {
        VisualSums sums = new VisualSums(1, 1, 1);
        Check.same("both are empty", sums.wins(0, 1), 0);
        Check.same("an empty one and itself", sums.wins(0, 0), 0);
        sums.note(0, 5.0);
        Check.same("the other one is empty", sums.wins(0, 1), 0);
        Check.same("the first one is empty", sums.wins(1, 0), 0);
        sums.note(1, -5.0);
        Check.same("one each", sums.wins(0, 1), 1);
        Check.same("one each, turned round", sums.wins(1, 0), -1);
        sums.note(0, 5.0);
        sums.note(0, -9.0);
        Check.same("the first one is longer", sums.wins(0, 1), 1);
        Check.same("the other one is longer", sums.wins(1, 0), -1);
        sums.note(1, 5.5);
        Check.same("two places of both", sums.wins(0, 1), 0);
        full();
        Check.end();
    }

    private static void full() {
        VisualSums sums = new VisualSums(1, 1, 1);
        for (int i = 0; i < 200; i++) {
            sums.note(2, i);
            sums.note(3, i - 0.5);
        }
        Check.same("all 200 are greater", sums.wins(2, 3), 200);
        Check.same("all 200 are less", sums.wins(3, 2), -200);
        sums.note(4, 0.5);
        Check.same("the one place of 200 and of 1", sums.wins(2, 4), -1);
        Check.same("the one place of 1 and of 200", sums.wins(4, 3), 1);
    }
}

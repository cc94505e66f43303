// Promise 19: "All is as at first." After everything there is, of a new object, and twice: all as of a new one.
public final class Promise19AsAtFirstTest {
    public static void main(String[] args) {
        String due = Seen.of(new VisualSums(5, 5, 1));
        VisualSums unused = new VisualSums(5, 5, 1);
        unused.clear();
        Check.same("a new object cleared", Seen.of(unused), due);
        VisualSums sums = new VisualSums(5, 5, 1);
        sums.paint(true, 255, 0);
        sums.paint(false, 9, 30);
        for (int corpus = 0; corpus < 8; corpus++) {
            sums.note(corpus, 1.0 + corpus);
            sums.note(corpus, -3.0);
        }
        sums.structure(0);
        sums.signs(false);
        sums.clear();
        Check.same("a used object cleared", Seen.of(sums), due);
        sums.clear();
        Check.same("cleared twice", sums.equal() && sums.greatest() == 0, true);
        Check.same("its first note", sums.note(0, 4.0), 1);
        Check.same("its mean", sums.mean(0), 4.0);
        Check.end();
    }
}

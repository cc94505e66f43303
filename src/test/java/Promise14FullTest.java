// Promise 14: "UnsupportedOperation: it has 200." The 200th is noted, the 201st is refused, of this corpus alone.
public final class Promise14FullTest {
    public static void main(String[] args) {
        for (int corpus = 0; corpus < 8; corpus++) {
            VisualSums sums = new VisualSums(1, 1, 1);
            int full = corpus;
            for (int i = 1; i < 200; i++) {
                sums.note(full, i);
            }
            Check.same("note 200", sums.note(full, 0.0), 200);
            Check.unsupported("note 201", () -> sums.note(full, 1.0));
            Check.unsupported("note 201 again", () -> sums.note(full, -1000000.0));
            Check.same("another corpus has room", sums.note((full + 1) % 8, 1.0), 1);
            Check.same("and the one before", sums.note((full + 7) % 8, 1.0), 1);
            sums.clear();
            Check.same("after clear there is room again", sums.note(full, 1.0), 1);
        }
        Check.end();
    }
}

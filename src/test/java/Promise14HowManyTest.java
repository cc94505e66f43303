// Promise 14: "behind those that are: how many it has". From the first to the 200th, of each corpus by itself.
public final class Promise14HowManyTest {
    public static void main(String[] args) {
        VisualSums sums = new VisualSums(1, 1, 1);
        for (int i = 1; i <= 200; i++) {
            Check.same("note " + i + " of 0", sums.note(0, 5.0), i);
            if (i <= 100) {
                Check.same("note " + i + " of 7", sums.note(7, -i), i);
                Check.same("note " + i + " of 3", sums.note(3, i), i);
            }
        }
        Check.same("the first one of another corpus", sums.note(6, 5.0), 1);
        Check.end();
    }
}

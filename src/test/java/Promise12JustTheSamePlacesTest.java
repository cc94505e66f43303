// Promise 12: "parts of the second one, too, of just the same places". One place more or less, joined, torn: not kept.
public final class Promise12JustTheSamePlacesTest {
    public static void main(String[] args) {
        kept(1, "..##.", "..##.");
        kept(0, "..##.", "..#..");
        kept(0, "..##.", "...#.");
        kept(0, "..##.", ".###.");
        kept(0, "..##.", "..###");
        kept(0, "..##.", ".##..");
        kept(0, "..##.", "...##");
        kept(0, "#.#..", "###..");
        kept(0, "###..", "#.#..");
        kept(2, "#.#.#", "#.#..");
        kept(1, "#...#", "##..#");
        kept(2, "#.#..", "#.#.#");
        kept(0, ".....", "#.#.#");
        // one part of the second one begins where another one of the first one does
        kept(0, "#.#.#", ".#.#.");
        VisualSums hole = new VisualSums(3, 3, 1);
        hole.put(false, 1, 1, 0, 255);
        Check.same("kept of nine places, the middle gone", hole.signs(false), 0);
        hole.copy();
        Check.same("kept of nine places", hole.signs(false), 1);
        hole.put(true, 2, 2, 0, 255);
        Check.same("kept of eight places, the last one come", hole.signs(false), 0);
        Check.end();
    }

    private static void kept(int due, String first, String second) {
        VisualSums sums = Draw.signs(new String[] {first}, new String[] {second});
        Check.same("kept of " + first + " in " + second, sums.signs(false), due);
    }
}

// Promise 12: "PARTS are black samples that hang together by sides and corners." Each of eight neighbours; none two away.
public final class Promise12SidesAndCornersTest {
    public static void main(String[] args) {
        for (int y = 0; y < 5; y++) {
            for (int x = 0; x < 5; x++) {
                VisualSums sums = new VisualSums(5, 5, 1);
                sums.paint(true, 255, 0);
                sums.put(true, 2, 2, 0, 0);
                sums.put(true, x, y, 0, 0);
                boolean near = x >= 1 && x <= 3 && y >= 1 && y <= 3;
                Check.same("parts of 2 2 and " + x + " " + y, sums.signs(true), near ? 1 : 2);
            }
        }
        throughOthers();
        Check.end();
    }

    // places that only others between them hold together, whichever way one goes from one to the other
    private static void throughOthers() {
        parts(1, "#...#", "#...#", "#####");
        parts(1, "#####", "#...#", "#...#");
        parts(1, "###..", "..#..", "###..", "#....", "###..");
        parts(1, "..###", "..#..", "..###", "....#", "..###");
        parts(1, "#.#.#", ".#.#.", ".....");
        parts(1, ".#.#.", "#.#.#", ".....");
        parts(1, "....#", "...#.", "#.#..", ".#...");
        parts(1, ".###.", "#...#", ".###.");
        parts(2, "#####", "#...#", "#.#.#", "#...#", "#####");
        parts(2, "#.###", "#.#.#", "#...#", "###.#");
        parts(4, "#..#.", "....#", ".#...", "#..#.");
    }

    private static void parts(int due, String... lines) {
        VisualSums sums = Draw.signs(lines, lines);
        String what = String.join(" ", lines);
        Check.same("parts of " + what, sums.signs(true), due);
        Check.same("kept of " + what, sums.signs(false), due);
        Check.same("parts of the second one: " + what, sums.told(4), due);
    }
}

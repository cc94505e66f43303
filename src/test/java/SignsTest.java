/** Promise 12: signs. */
public final class SignsTest {
    public static void main(String[] args) {
        promise12Parts();
        promise12Kept();
        promise12KeptNeedsTheSamePlaces();
        promise12BlackIsGreyBelow128();
        promise12LongParts();
        Check.end();
    }

    private static void signs(String what, String[] first, String[] second, int parts, int kept) {
        VisualSums sums = Draw.signs(first, second);
        Check.same(what + ": parts", sums.signs(true), parts);
        Check.same(what + ": kept", sums.signs(false), kept);
        Check.same(what + ": parts again", sums.signs(true), parts);
    }

    private static void promise12Parts() {
        String[] none = {".....", ".....", "....."};
        signs("no part", none, none, 0, 0);
        signs("one place", new String[] {"#"}, new String[] {"."}, 1, 0);
        signs("by sides", new String[] {"##..#", ".#..#", ".##.#"}, none, 2, 0);
        signs("by corners", new String[] {"#.#.#", ".#.#.", "....."}, none, 1, 0);
        signs("the other corners", new String[] {"..#..", ".#...", "#...#"}, none, 2, 0);
        signs("rows do not hang together round the sides", new String[] {"....#", "#....", "....."}, none, 2, 0);
        signs("nor round a row", new String[] {"....#", ".....", "#...."}, none, 2, 0);
        signs("all places alone", new String[] {"#.#.#", ".....", "#.#.#"}, none, 6, 0);
        signs("a ring", new String[] {"#####", "#...#", "#####"}, none, 1, 0);
        signs("meeting late", new String[] {"#...#", "#...#", "#####"}, none, 1, 0);
        signs("meeting from the left", new String[] {"...#.", "##.#.", "..#.."}, none, 1, 0);
        signs("two rows away", new String[] {"#....", "#..#.", "#....", "#####"}, none4(), 2, 0);
        signs("two columns away", new String[] {"#####", "....#", "..#.#", "....#"}, none4(), 2, 0);
    }

    private static String[] none4() {
        return new String[] {".....", ".....", ".....", "....."};
    }

    private static void promise12Kept() {
        String[] first = {"##..#.", ".#....", "....##", "#....."};
        signs("all kept", first, first, 4, 4);
        signs("none there", first, new String[] {"......", "......", "......", "......"}, 4, 0);
        signs("one gone", first, new String[] {"##....", ".#....", "....##", "#....."}, 4, 3);
        signs("new ones do not count", new String[] {"#.....", "......"}, new String[] {"#..#..", ".....#"}, 1, 1);
        signs("nothing in the first one", new String[] {"......", "......"}, new String[] {"#..#..", ".....#"}, 0, 0);
    }

    private static void promise12KeptNeedsTheSamePlaces() {
        String[] first = {"##..##", "......", "##..##"};
        signs("one lost a place behind", first, new String[] {"#...##", "......", "##..##"}, 4, 3);
        signs("one lost a place before", first, new String[] {".#..##", "......", "##..##"}, 4, 3);
        signs("one has one more behind", first, new String[] {"###.##", "......", "##..##"}, 4, 3);
        signs("one has one more before", first, new String[] {"##.###", "......", "##..##"}, 4, 3);
        signs("two became one", first, new String[] {"######", "......", "##..##"}, 4, 2);
        signs("two became one by corners", first, new String[] {"##..##", "..#...", "##..##"}, 4, 2);
        signs("one became two", new String[] {"#####."}, new String[] {"##.##."}, 1, 0);
        signs("moved by one", new String[] {"##...."}, new String[] {".##..."}, 1, 0);
        signs("two of three kept", new String[] {"#.#.#.", "......"}, new String[] {"#.#.#.", ".....#"}, 3, 2);
    }

    private static void promise12BlackIsGreyBelow128() {
        VisualSums sums = new VisualSums(3, 3, 3);
        sums.paint(true, 128, 0);
        sums.paint(false, 255, 0);
        Check.same("128 is not black", sums.signs(true), 0);
        sums.put(true, 1, 1, 0, 126);
        Check.same("126 128 128 is grey 128", sums.signs(true), 0);
        sums.put(true, 1, 1, 0, 125);
        Check.same("125 128 128 is grey 127", sums.signs(true), 1);
        Check.same("kept by the grey ones", sums.signs(false), 0);
        sums.put(false, 1, 1, 1, 0);
        Check.same("255 0 255 is grey 128", sums.signs(false), 0);
        sums.put(false, 1, 1, 0, 200);
        Check.same("200 0 255 is grey 114", sums.signs(false), 1);
        VisualSums zero = new VisualSums(24, 24, 2);
        Check.same("all black is one part", zero.signs(true), 1);
        Check.same("and kept", zero.signs(false), 1);
    }

    // a snake through all rows, and as many parts as there may be
    private static void promise12LongParts() {
        VisualSums sums = new VisualSums(24, 24, 1);
        Draw.all(sums, true, 255);
        for (int y = 0; y < 24; y++) {
            for (int x = 0; x < 24; x++) {
                boolean turn = x == (y % 4 == 1 ? 23 : 0);
                if (y % 2 == 0 && x > 0 && x < 23 || y % 2 == 1 && turn) {
                    sums.put(true, x, y, 0, 0);
                }
            }
        }
        sums.copy();
        Check.same("a snake is one part", sums.signs(true), 1);
        Check.same("a snake is kept", sums.signs(false), 1);
        sums.put(false, 12, 12, 0, 255);
        Check.same("a snake in two is not kept", sums.signs(false), 0);
        Check.same("it is two parts", sums.told(4), 2);
        VisualSums most = new VisualSums(24, 24, 1);
        Draw.all(most, true, 255);
        for (int y = 0; y < 24; y += 2) {
            for (int x = 0; x < 24; x += 2) {
                most.put(true, x, y, 0, 0);
            }
        }
        most.copy();
        Check.same("the most parts", most.signs(true), 144);
        Check.same("the most kept", most.signs(false), 144);
        most.put(false, 1, 1, 0, 0);
        Check.same("four are joined", most.signs(false), 140);
        Check.same("the joined one is one", most.told(4), 141);
    }
}

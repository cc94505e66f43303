/** Promises 1 to 4, 13, 18 and 19: the object, its samples and what it tells of itself. */
public final class SamplesTest {
    private static final int MIN = Integer.MIN_VALUE;
    private static final int MAX = Integer.MAX_VALUE;

    public static void main(String[] args) {
        promise1NewObject();
        promise2Put();
        promise3Paint();
        promise3PaintOrderAndRests();
        promise4Copy();
        promise13Equal();
        promise18Told();
        promise19Clear();
        Check.end();
    }

    private static void size(String what, VisualSums sums, int width, int height, int channels) {
        Check.same(what + ": width", sums.told(0), width);
        Check.same(what + ": height", sums.told(1), height);
        Check.same(what + ": channels", sums.told(2), channels);
    }

    private static void allZero(String what, VisualSums sums, int width, int height, int channels) {
        for (int y = 0; y < height; y++) {
            for (int x = 0; x < width; x++) {
                for (int channel = 0; channel < channels; channel++) {
                    Check.same(what + ": first", sums.put(true, x, y, channel, 0), 0);
                    Check.same(what + ": second", sums.put(false, x, y, channel, 0), 0);
                }
            }
        }
    }

    private static void nothingNoted(String what, VisualSums sums) {
        for (int corpus = 0; corpus < 8; corpus++) {
            int which = corpus;
            Check.illegalState(what + ": mean " + which, () -> sums.mean(which));
            Check.outOfBounds(what + ": ranked " + which, () -> sums.ranked(which, 0));
        }
    }

    private static void promise1NewObject() {
        VisualSums sums = new VisualSums(9, 4, 2);
        size("new 9 4 2", sums, 9, 4, 2);
        allZero("new 9 4 2", sums, 9, 4, 2);
        nothingNoted("new 9 4 2", sums);
        Check.same("new: equal", sums.equal(), true);
        Check.same("new: the object's calls do not touch another", new VisualSums(9, 4, 2).put(true, 0, 0, 0, 1), 0);
    }

    private static void promise2Put() {
        VisualSums sums = new VisualSums(4, 3, 3);
        Check.same("put 255", sums.put(true, 3, 2, 2, 255), 0);
        Check.same("put again", sums.put(true, 3, 2, 2, 0), 255);
        Check.same("put once more", sums.put(true, 3, 2, 2, 7), 0);
        Check.same("the second picture has samples of its own", sums.put(false, 3, 2, 2, 8), 0);
        Check.same("the first picture keeps its own", sums.put(true, 3, 2, 2, 7), 7);
        int v = 1;
        for (int y = 0; y < 3; y++) {
            for (int x = 0; x < 4; x++) {
                for (int channel = 0; channel < 3; channel++) {
                    sums.put(true, x, y, channel, v++);
                }
            }
        }
        v = 1;
        for (int y = 0; y < 3; y++) {
            for (int x = 0; x < 4; x++) {
                for (int channel = 0; channel < 3; channel++) {
                    Check.same("each place and channel is one of its own", sums.put(true, x, y, channel, 0), v++);
                }
            }
        }
    }

    private static void promise3Paint() {
        VisualSums sums = new VisualSums(5, 4, 3);
        Check.same("paint 3", sums.paint(true, 3, 0), 60);
        Check.same("paint 3 again", sums.paint(true, 3, 0), 0);
        Check.same("paint leaves the second one", sums.paint(false, 0, 0), 0);
        sums.put(true, 2, 2, 1, 9);
        Check.same("paint tells one change", sums.paint(true, 3, 0), 1);
        Check.same("paint 0", sums.paint(false, 0, 1), 59);
        Check.same("paint with a rest", sums.paint(true, 256 + 3, 256), 0);
    }

    private static void promise3PaintOrderAndRests() {
        int[][] numbers = {{7, 5}, {-1, -1}, {255, 1}, {MAX, MAX}, {MIN, MIN}, {MAX, 1}, {MIN, -1}, {1000, -77}, {-300, 256}};
        for (int[] n : numbers) {
            VisualSums sums = new VisualSums(5, 4, 3);
            sums.paint(true, n[0], n[1]);
            long sum = n[0];
            for (int y = 0; y < 4; y++) {
                for (int x = 0; x < 5; x++) {
                    for (int channel = 0; channel < 3; channel++) {
                        Check.same("painted " + n[0] + " step " + n[1], sums.put(true, x, y, channel, 0), Math.floorMod(sum, 256));
                        sum += n[1];
                    }
                }
            }
        }
    }

    private static void promise4Copy() {
        VisualSums sums = new VisualSums(6, 2, 2);
        Check.same("copy of the same", sums.copy(), 0);
        sums.paint(true, 1, 1);
        sums.paint(false, 1, 1);
        sums.put(true, 5, 1, 1, 200);
        sums.put(true, 0, 0, 0, 200);
        sums.put(false, 3, 0, 1, 201);
        Check.same("copy", sums.copy(), 3);
        Check.same("copy again", sums.copy(), 0);
        Check.same("the second one is the first one", sums.put(false, 5, 1, 1, 77), 200);
        Check.same("the first one stays itself", sums.put(true, 5, 1, 1, 200), 200);
        Check.same("copied into the second one", sums.put(false, 3, 0, 1, 0), 8);
    }

    private static void promise13Equal() {
        VisualSums sums = new VisualSums(3, 3, 3);
        Check.same("equal at first", sums.equal(), true);
        for (int place = 0; place < 9; place++) {
            for (int channel = 0; channel < 3; channel++) {
                sums.put(place % 2 == 0, place % 3, place / 3, channel, 1);
                Check.same("one sample is another one", sums.equal(), false);
                sums.put(place % 2 == 0, place % 3, place / 3, channel, 0);
                Check.same("no sample is another one", sums.equal(), true);
            }
        }
        // the grey ones are the same, the samples are not
        sums.put(true, 1, 1, 0, 9);
        sums.put(false, 1, 1, 2, 9);
        Check.same("equal looks at samples", sums.equal(), false);
    }

    private static void promise18Told() {
        int[][] sizesAndScales = {{1, 1, 0}, {4, 4, 0}, {4, 24, 0}, {24, 4, 0}, {5, 5, 1}, {9, 24, 1}, {24, 9, 1}, {10, 10, 2},
            {19, 24, 2}, {24, 19, 2}, {20, 20, 3}, {24, 24, 3}, {5, 24, 1}, {11, 23, 2}};
        for (int[] size : sizesAndScales) {
            VisualSums sums = new VisualSums(size[0], size[1], 1);
            Check.same("scales of " + size[0] + " by " + size[1], sums.told(3), size[2]);
        }
        VisualSums sums = new VisualSums(7, 6, 2);
        size("7 6 2", sums, 7, 6, 2);
        for (int what : new int[] {-1, 5, 6, MIN, MAX}) {
            Check.same("told " + what, sums.told(what), VisualSums.NONE);
        }
        String[] none = {"....", "...."};
        VisualSums drawn = Draw.signs(new String[] {"#.#.", "...#"}, none);
        Check.same("no part in the second one", drawn.told(4), 0);
        Draw.signsOn(drawn, false, "#.##", "....");
        Check.same("two parts in the second one", drawn.told(4), 2);
        Draw.signsOn(drawn, false, "#.#.", ".#.#");
        Check.same("one part by corners", drawn.told(4), 1);
    }

    private static void promise19Clear() {
        VisualSums sums = new VisualSums(6, 5, 2);
        sums.paint(true, 1, 3);
        sums.paint(false, 2, 5);
        for (int corpus = 0; corpus < 8; corpus++) {
            sums.note(corpus, corpus);
            sums.note(corpus, -1.5);
        }
        sums.clear();
        size("cleared", sums, 6, 5, 2);
        Check.same("cleared: equal", sums.equal(), true);
        allZero("cleared", sums, 6, 5, 2);
        nothingNoted("cleared", sums);
        Check.same("cleared: the first note", sums.note(3, 4.0), 1);
        Check.same("cleared: its mean", sums.mean(3), 4.0);
        Check.same("cleared: its least", sums.ranked(3, 0), 4.0);
    }
}

/** Promises 10 and 11: blocks and bands. */
public final class NeighboursTest {
    public static void main(String[] args) {
        promise10Blocks();
        promise10OneSort();
        promise11Bands();
        promise11LooksAtGrey();
        Check.end();
    }

    private static void promise10Blocks() {
        VisualSums sums = new VisualSums(7, 2, 1);
        Draw.line(sums, false, 0, 10, 13, 20, 20, 5, 6, 100);
        Draw.line(sums, false, 1, 0, 0, 1, 3, 3, 0, 50);
        Draw.all(sums, true, 77);
        // steps: 3 7 0 15 1 94, and 0 1 2 0 3 50, to the columns 1 .. 6
        Check.same("blocks 2", sums.blocks(2), 167.0 / 6.0 - 9.0 / 6.0);
        Check.same("blocks 3", sums.blocks(3), 146.0 / 4.0 - 30.0 / 8.0);
        Check.same("blocks 4", sums.blocks(4), 15.0 / 2.0 - 161.0 / 10.0);
        Check.same("blocks 6", sums.blocks(6), 144.0 / 2.0 - 32.0 / 10.0);
        Check.same("the first picture does not count", sums.put(true, 6, 0, 0, 1), 77);
        Check.same("blocks 6 again", sums.blocks(6), 144.0 / 2.0 - 32.0 / 10.0);
        VisualSums three = new VisualSums(3, 1, 3);
        three.put(false, 1, 0, 1, 100);
        Check.same("blocks of grey ones", three.blocks(2), 0.0);
        three.put(false, 2, 0, 0, 255);
        Check.same("blocks of grey ones, 50 and 14", three.blocks(2), 14.0 - 50.0);
    }

    private static void promise10OneSort() {
        VisualSums sums = new VisualSums(7, 2, 1);
        sums.paint(false, 1, 3);
        Check.same("blocks 7: no right one is at 7", sums.blocks(7), 0.0);
        Check.same("blocks 24", sums.blocks(24), 0.0);
        Check.same("blocks 6: even steps", sums.blocks(6), 0.0);
        sums.put(false, 6, 0, 0, 0);
        Check.same("blocks 6 with a step", sums.blocks(6) == 0.0, false);
        VisualSums two = new VisualSums(2, 24, 1);
        two.paint(false, 1, 99);
        Check.same("no right one but in column 1", two.blocks(2), 0.0);
        VisualSums one = new VisualSums(1, 24, 1);
        one.paint(false, 1, 99);
        Check.same("no neighbours in rows", one.blocks(2), 0.0);
        VisualSums wide = new VisualSums(24, 1, 1);
        wide.put(false, 23, 0, 0, 46);
        Check.same("blocks 23", wide.blocks(23), 46.0);
        Check.same("blocks 22: a step of another one", wide.blocks(22), -46.0 / 22.0);
    }

    private static void promise11Bands() {
        VisualSums sums = new VisualSums(6, 2, 1);
        Draw.line(sums, true, 0, 10, 11, 12, 11, 11, 13);
        Draw.line(sums, false, 0, 10, 10, 11, 11, 12, 12);
        // 1 to 0: gone; 1 to 1; 1 to 0: gone; 0 to 1: come; 2 to 0
        Check.same("bands: two gone, one come", sums.bands(), 1.0 / 10.0);
        Draw.line(sums, true, 1, 0, 0, 0, 1, 3, 3);
        Draw.line(sums, false, 1, 0, 1, 0, 2, 3, 5);
        // 0 to 1: come; 0 to 1: come; 1 to 2; 2 to 1; 0 to 2
        Check.same("bands: two more come", sums.bands(), -1.0 / 10.0);
        sums.copy();
        Check.same("bands of the same", sums.bands(), 0.0);
        Draw.all(sums, false, 9);
        Check.same("bands: all gone", sums.bands(), 4.0 / 10.0);
        VisualSums down = new VisualSums(2, 1, 1);
        Draw.line(down, true, 0, 7, 6);
        Check.same("bands: a step down", down.bands(), 1.0);
        VisualSums back = new VisualSums(2, 1, 1);
        Draw.line(back, false, 0, 7, 6);
        Check.same("bands: the other way round", back.bands(), -1.0);
        VisualSums one = new VisualSums(1, 24, 1);
        one.paint(true, 0, 1);
        Check.same("bands without neighbours in rows", one.bands(), 0.0);
    }

    private static void promise11LooksAtGrey() {
        VisualSums sums = new VisualSums(3, 1, 2);
        sums.put(true, 1, 0, 0, 2);
        sums.put(true, 2, 0, 1, 2);
        Check.same("bands of grey ones", sums.bands(), 1.0 / 2.0);
        sums.put(true, 2, 0, 1, 4);
        Check.same("bands of grey ones, both", sums.bands(), 2.0 / 2.0);
    }
}

// Promise 8: "the sum of its cells', divided by how many there are". There is one alone; there are the most, 400.
public final class Promise08OneCellTest {
    public static void main(String[] args) {
        VisualSums one = new VisualSums(5, 5, 1);
        one.paint(true, 3, 31);
        one.paint(false, 200, 17);
        Check.same("structure of the only cell", one.structure(0), one.map(2, 2));
        VisualSums two = new VisualSums(6, 5, 1);
        two.paint(true, 3, 31);
        two.paint(false, 200, 17);
        Check.same("structure of two cells in a row", two.structure(0), (two.map(2, 2) + two.map(3, 2)) / 2.0);
        VisualSums down = new VisualSums(5, 6, 1);
        down.paint(true, 3, 31);
        down.paint(false, 200, 17);
        Check.same("structure of two cells in a column", down.structure(0), (down.map(2, 2) + down.map(2, 3)) / 2.0);
        VisualSums most = new VisualSums(24, 24, 1);
        most.paint(true, 3, 31);
        most.paint(false, 200, 17);
        double sum = 0.0;
        for (int i = 0; i < 400; i++) {
            sum += most.map(2 + i % 20, 2 + i / 20);
        }
        Check.same("structure of 400 cells", most.structure(0), sum / 400.0);
        Check.end();
    }
}

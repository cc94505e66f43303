// Promise 4: "how many samples changed". One, all but one, and all.
public final class Promise04AllChangedTest {
    public static void main(String[] args) {
        VisualSums most = new VisualSums(24, 24, 3);
        most.paint(true, 1, 0);
        Check.same("all of the most", most.copy(), 1728);
        most.put(true, 23, 23, 2, 0);
        Check.same("the last one", most.copy(), 1);
        most.put(false, 0, 0, 0, 0);
        Check.same("the first one", most.copy(), 1);
        most.paint(false, 255, 0);
        most.put(false, 5, 6, 1, 1);
        Check.same("all but one", most.copy(), 1727);
        Check.same("now they are the same", most.equal(), true);
        VisualSums least = new VisualSums(1, 1, 1);
        least.put(false, 0, 0, 0, 255);
        Check.same("the only one", least.copy(), 1);
        Check.same("it is the first picture's", least.grey(false, 0, 0), 0);
        Check.end();
    }
}

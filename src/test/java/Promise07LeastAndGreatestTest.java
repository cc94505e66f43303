// Promise 7: "GREY: the sample, if there is one channel". 0 and 255 stay so, and are so of two and three channels, too.
public final class Promise07LeastAndGreatestTest {
    public static void main(String[] args) {
        for (int v : new int[] {0, 1, 127, 128, 254, 255}) {
            for (int channels = 1; channels <= 3; channels++) {
                VisualSums sums = new VisualSums(24, 24, channels);
                sums.paint(true, v, 0);
                sums.paint(false, 255 - v, 0);
                String what = "grey of " + channels + " channels of " + v;
                Check.same(what, sums.grey(true, 0, 0), v);
                Check.same(what + ", last place", sums.grey(true, 23, 23), v);
                Check.same(what + " less than 255", sums.grey(false, 23, 0), 255 - v);
            }
        }
        Check.end();
    }
}

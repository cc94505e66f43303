// Promise 2: "IndexOutOfBounds: there is no such place, channel". Beyond both ends of one, two and three channels.
public final class Promise02NoSuchChannelTest {
    public static void main(String[] args) {
        for (int channels = 1; channels <= 3; channels++) {
            VisualSums sums = new VisualSums(4, 3, channels);
            for (int channel : Edges.outside(0, channels - 1)) {
                Check.outOfBounds("channel " + channel + " of " + channels, () -> sums.put(true, 1, 1, channel, 1));
                Check.outOfBounds("channel " + channel + " of " + channels, () -> sums.put(false, 3, 2, channel, 1));
            }
            for (int channel = 0; channel < channels; channel++) {
                Check.same("a channel that is there", sums.put(true, 1, 1, channel, 1), 0);
            }
        }
        Check.end();
    }
}

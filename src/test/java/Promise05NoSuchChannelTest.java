// Promise 5: "IndexOutOfBounds: there is no such place, channel". Beyond both ends of one, two and three channels.
public final class Promise05NoSuchChannelTest {
    public static void main(String[] args) {
        for (int channels = 1; channels <= 3; channels++) {
            VisualSums sums = new VisualSums(4, 3, channels);
            for (int channel : Edges.outside(0, channels - 1)) {
                Check.outOfBounds("squared " + channel + " of " + channels, () -> sums.squared(channel));
            }
            for (int channel = 0; channel < channels; channel++) {
                Check.same("squared " + channel + " of " + channels, sums.squared(channel), 0.0);
            }
        }
        Check.end();
    }
}

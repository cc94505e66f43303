/** Two pictures of some channels measured against each other, and numbers of many pictures noted and summed. */
public final class VisualSums {
    public static final int NONE = -1;

    private static final int MOST_SIDE = 24;
    private static final int MOST_CHANNELS = 3;
    private static final int MOST_SAMPLE = 255;
    private static final int BLACK_BELOW = 128;
    private static final int LAST_SCALE_TOLD = 4;
    private static final int LEAST_BLOCK = 2;
    private static final int CORPORA = 8;
    private static final int MOST_NOTES = 200;
    private static final int MOST_NUMBER = 1000000;

    private static final int[] WEIGHTS = {1, 4, 6, 4, 1};
    private static final int CELL = 5;
    private static final int REACH = 2;
    private static final int WEIGHT_OF_CELL = 256;

    private final int width;
    private final int height;
    private final int channels;
    private final int scales;
    private final Picture firstPicture;
    private final Picture secondPicture;
    private final ScaledGreys scaledGreys;
    private final Parts firstParts;
    private final Parts secondParts;
    private final Corpus[] corpora;

    public VisualSums(int width, int height, int channels) {
        this.width = nearest(width, MOST_SIDE);
        this.height = nearest(height, MOST_SIDE);
        this.channels = nearest(channels, MOST_CHANNELS);
        scales = scalesOf(this.width, this.height);
        firstPicture = new Picture(this.width * this.height, this.channels);
        secondPicture = new Picture(this.width * this.height, this.channels);
        scaledGreys = new ScaledGreys(this.width, this.height);
        firstParts = new Parts(this.width, this.height);
        secondParts = new Parts(this.width, this.height);
        corpora = new Corpus[CORPORA];
        for (int i = 0; i < corpora.length; i++) {
            corpora[i] = new Corpus();
        }
    }

    public int put(boolean first, int x, int y, int channel, int v)
            throws IndexOutOfBoundsException, IllegalArgumentException {
        if (!hasPlace(x, y) || !hasChannel(channel)) {
            throw new IndexOutOfBoundsException("no such place or channel");
        }
        if (v < 0 || v > MOST_SAMPLE) {
            throw new IllegalArgumentException("no such sample");
        }
        return pictureOf(first).replace(placeOf(x, y), channel, v);
    }

    public int paint(boolean first, int v, int step) {
        return pictureOf(first).fill(v, step);
    }

    public int copy() {
        return secondPicture.become(firstPicture);
    }

    public double squared(int channel) throws IndexOutOfBoundsException {
        if (!hasChannel(channel)) {
            throw new IndexOutOfBoundsException("no such channel");
        }
        long sum = firstPicture.squaresAgainst(secondPicture, channel);
        return quotient(sum, width * height);
    }

    public int greatest() {
        return firstPicture.greatestAgainst(secondPicture);
    }

    public int grey(boolean first, int x, int y) throws IndexOutOfBoundsException {
        if (!hasPlace(x, y)) {
            throw new IndexOutOfBoundsException("no such place");
        }
        return pictureOf(first).greyAt(placeOf(x, y));
    }

    public double structure(int scale) throws IllegalArgumentException, IllegalStateException {
        if (scale < 0 || scale > LAST_SCALE_TOLD) {
            throw new IllegalArgumentException("the scale is not 0 .. 4");
        }
        if (scale >= scales) {
            throw new IllegalStateException("no such scale");
        }
        scaledGreys.readFrom(firstPicture, secondPicture);
        for (int halved = 0; halved < scale; halved++) {
            scaledGreys.halve();
        }
        return scaledGreys.averageLikeness();
    }

    public double map(int x, int y) throws IndexOutOfBoundsException {
        if (x < REACH || x >= width - REACH || y < REACH || y >= height - REACH) {
            throw new IndexOutOfBoundsException("no cell has its middle there");
        }
        scaledGreys.readFrom(firstPicture, secondPicture);
        return scaledGreys.likenessAt(x - REACH, y - REACH);
    }

    public double blocks(int size) throws IllegalArgumentException {
        if (size < LEAST_BLOCK || size > MOST_SIDE) {
            throw new IllegalArgumentException("the size is not 2 .. 24");
        }
        int edges = 0;
        int others = 0;
        long edgeSum = 0;
        long otherSum = 0;
        for (int y = 0; y < height; y++) {
            for (int x = 1; x < width; x++) {
                int difference = stepTo(secondPicture, x, y);
                if (x % size == 0) {
                    edges++;
                    edgeSum += difference;
                } else {
                    others++;
                    otherSum += difference;
                }
            }
        }
        if (edges == 0 || others == 0) {
            return 0.0;
        }
        return quotient(edgeSum, edges) - quotient(otherSum, others);
    }

    public double bands() {
        int neighbours = 0;
        long flattened = 0;
        for (int y = 0; y < height; y++) {
            for (int x = 1; x < width; x++) {
                int firstStep = stepTo(firstPicture, x, y);
                int secondStep = stepTo(secondPicture, x, y);
                neighbours++;
                if (firstStep == 1 && secondStep == 0) {
                    flattened++;
                } else if (firstStep == 0 && secondStep == 1) {
                    flattened--;
                }
            }
        }
        return quotient(flattened, neighbours);
    }

    public int signs(boolean all) {
        firstParts.findIn(firstPicture);
        if (all) {
            return firstParts.count();
        }
        secondParts.findIn(secondPicture);
        return firstParts.countAlsoIn(secondParts);
    }

    public boolean equal() {
        return firstPicture.sameAs(secondPicture);
    }

    public int note(int corpus, double v)
            throws IndexOutOfBoundsException, IllegalArgumentException, UnsupportedOperationException {
        Corpus found = corpusOf(corpus);
        if (found == null) {
            throw new IndexOutOfBoundsException("no such corpus");
        }
        boolean inRange = v >= -MOST_NUMBER && v <= MOST_NUMBER;
        if (!inRange) {
            throw new IllegalArgumentException("the number is not -1000000 .. 1000000");
        }
        int count = found.add(v == 0.0 ? 0.0 : v);
        if (count == NONE) {
            throw new UnsupportedOperationException("the corpus has 200 numbers");
        }
        return count;
    }

    public double mean(int corpus) throws IndexOutOfBoundsException, IllegalStateException {
        Corpus found = corpusOf(corpus);
        if (found == null) {
            throw new IndexOutOfBoundsException("no such corpus");
        }
        if (found.size() == 0) {
            throw new IllegalStateException("nothing was noted");
        }
        return found.average();
    }

    public double ranked(int corpus, int i) throws IndexOutOfBoundsException {
        Corpus found = corpusOf(corpus);
        if (found == null || i < 0 || i >= found.size()) {
            throw new IndexOutOfBoundsException("no such corpus or note");
        }
        return found.atRank(i);
    }

    public int wins(int corpus, int other) throws IndexOutOfBoundsException {
        Corpus found = corpusOf(corpus);
        Corpus against = corpusOf(other);
        if (found == null || against == null) {
            throw new IndexOutOfBoundsException("no such corpus");
        }
        return found.winsAgainst(against);
    }

    public int told(int what) {
        switch (what) {
            case 0:
                return width;
            case 1:
                return height;
            case 2:
                return channels;
            case 3:
                return scales;
            case 4:
                secondParts.findIn(secondPicture);
                return secondParts.count();
            default:
                return NONE;
        }
    }

    public void clear() {
        firstPicture.fill(0, 0);
        secondPicture.fill(0, 0);
        for (int i = 0; i < CORPORA; i++) {
            Corpus found = corpusOf(i);
            if (found != null) {
                found.empty();
            }
        }
    }

    private static int nearest(int number, int most) {
        return Math.max(1, Math.min(most, number));
    }

    private static int scalesOf(int width, int height) {
        int found = 0;
        int side = Math.min(width, height);
        for (int scale = 0; scale <= LAST_SCALE_TOLD && side >= CELL; scale++) {
            found++;
            side /= 2;
        }
        return found;
    }

    private static double quotient(long sum, int count) {
        return count > 0 ? (double) sum / (double) count : 0.0;
    }

    private Picture pictureOf(boolean first) {
        return first ? firstPicture : secondPicture;
    }

    private Corpus corpusOf(int corpus) {
        return corpus >= 0 && corpus < corpora.length ? corpora[corpus] : null;
    }

    private boolean hasPlace(int x, int y) {
        return x >= 0 && x < width && y >= 0 && y < height;
    }

    private boolean hasChannel(int channel) {
        return channel >= 0 && channel < channels;
    }

    private int placeOf(int x, int y) {
        return y * width + x;
    }

    /** How far the grey one at a place is from its left neighbour, without a sign. */
    private int stepTo(Picture picture, int x, int y) {
        int place = placeOf(x, y);
        return Math.abs(picture.greyAt(place) - picture.greyAt(place - 1));
    }

    /** Samples place by place, row by row, and of each place channel by channel. */
    private static final class Picture {
        private final int channels;
        private final int[] samples;

        Picture(int places, int channels) {
            this.channels = channels;
            samples = new int[places * channels];
        }

        int replace(int place, int channel, int v) {
            int i = place * channels + channel;
            if (i < 0 || i >= samples.length) {
                return NONE;
            }
            int before = samples[i];
            samples[i] = v;
            return before;
        }

        int fill(int v, int step) {
            int changed = 0;
            // int wraps at a multiple of 256, so the rests stay right however far the sum goes
            int sum = v;
            for (int i = 0; i < samples.length; i++) {
                int rest = sum & MOST_SAMPLE;
                if (samples[i] != rest) {
                    samples[i] = rest;
                    changed++;
                }
                sum += step;
            }
            return changed;
        }

        int become(Picture other) {
            int changed = 0;
            for (int i = 0; i < samples.length && i < other.samples.length; i++) {
                if (samples[i] != other.samples[i]) {
                    samples[i] = other.samples[i];
                    changed++;
                }
            }
            return changed;
        }

        long squaresAgainst(Picture other, int channel) {
            long sum = 0;
            if (channel < 0 || channels < 1) {
                return sum;
            }
            for (int i = channel; i < samples.length && i < other.samples.length; i += channels) {
                int difference = samples[i] - other.samples[i];
                sum += difference * difference;
            }
            return sum;
        }

        int greatestAgainst(Picture other) {
            int greatest = 0;
            for (int i = 0; i < samples.length && i < other.samples.length; i++) {
                greatest = Math.max(greatest, Math.abs(samples[i] - other.samples[i]));
            }
            return greatest;
        }

        boolean sameAs(Picture other) {
            return greatestAgainst(other) == 0;
        }

        int greyAt(int place) {
            int i = place * channels;
            if (i < 0 || i + channels > samples.length) {
                return 0;
            }
            switch (channels) {
                case 1:
                    return samples[i];
                case 2:
                    return (samples[i] + samples[i + 1] + 1) / 2;
                case 3:
                    return (samples[i] + 2 * samples[i + 1] + samples[i + 2] + 2) / 4;
                default:
                    return 0;
            }
        }
    }

    /** The grey ones of both pictures, read anew by each call that needs them, then halved as often as it asks. */
    private static final class ScaledGreys {
        private final int fullWidth;
        private final int fullHeight;
        private final int[] first;
        private final int[] second;
        private int width;
        private int height;

        ScaledGreys(int width, int height) {
            fullWidth = width;
            fullHeight = height;
            first = new int[width * height];
            second = new int[width * height];
        }

        void readFrom(Picture firstPicture, Picture secondPicture) {
            width = fullWidth;
            height = fullHeight;
            for (int place = 0; place < first.length && place < second.length; place++) {
                first[place] = firstPicture.greyAt(place);
                second[place] = secondPicture.greyAt(place);
            }
        }

        void halve() {
            shrink(first);
            shrink(second);
            width /= 2;
            height /= 2;
        }

        // One row can hold both sizes: no place of the smaller one lies behind the four that it is made of.
        private void shrink(int[] greys) {
            int halfWidth = width / 2;
            int halfHeight = height / 2;
            for (int y = 0; y < halfHeight; y++) {
                for (int x = 0; x < halfWidth; x++) {
                    int from = 2 * y * width + 2 * x;
                    int to = y * halfWidth + x;
                    if (to >= 0 && to <= from && from + width + 1 < greys.length) {
                        int sum = greys[from] + greys[from + 1] + greys[from + width] + greys[from + width + 1];
                        greys[to] = (sum + 2) / 4;
                    }
                }
            }
        }

        double averageLikeness() {
            double sum = 0.0;
            int cells = 0;
            for (int top = 0; top <= height - CELL; top++) {
                for (int left = 0; left <= width - CELL; left++) {
                    sum += likenessAt(left, top);
                    cells++;
                }
            }
            return cells > 0 ? sum / (double) cells : 0.0;
        }

        double likenessAt(int left, int top) {
            long sumA = 0;
            long sumB = 0;
            long sumAA = 0;
            long sumBB = 0;
            long sumAB = 0;
            for (int down = 0; down < WEIGHTS.length; down++) {
                int start = (top + down) * width + left;
                for (int across = 0; across < WEIGHTS.length; across++) {
                    int place = start + across;
                    if (place >= 0 && place < first.length && place < second.length) {
                        int weight = WEIGHTS[down] * WEIGHTS[across];
                        int a = first[place];
                        int b = second[place];
                        int weightedA = weight * a;
                        int weightedB = weight * b;
                        sumA += weightedA;
                        sumB += weightedB;
                        sumAA += weightedA * a;
                        sumBB += weightedB * b;
                        sumAB += weightedA * b;
                    }
                }
            }
            double m = (double) (sumA * sumB);
            double p = (double) (sumA * sumA + sumB * sumB);
            double v = (double) (WEIGHT_OF_CELL * sumAB - sumA * sumB);
            double q = (double) (WEIGHT_OF_CELL * sumAA - sumA * sumA + WEIGHT_OF_CELL * sumBB - sumB * sumB);
            return ratio(m, p, v, q);
        }

        private static double ratio(double m, double p, double v, double q) {
            double c = 426053.0;
            double d = 3834474.0;
            return ((2.0 * m + c) * (2.0 * v + d)) / ((p + c) * (q + d));
        }
    }

    /**
     * The parts of one picture, each known by its first place. The places are numbered with a margin of one round
     * the picture, so that every place of the picture has eight neighbours.
     */
    private static final class Parts {
        private static final int OPEN = -2;

        private final int width;
        private final int height;
        private final int line;
        private final int[] starts;
        private final int[] queue;
        private final boolean[] torn;
        private int queued;

        Parts(int width, int height) {
            this.width = width;
            this.height = height;
            line = width + 2;
            starts = new int[line * (height + 2)];
            queue = new int[width * height];
            torn = new boolean[line * (height + 2)];
        }

        void findIn(Picture picture) {
            openBlackPlaces(picture);
            for (int place = 0; place < starts.length; place++) {
                if (starts[place] == OPEN) {
                    spreadFrom(place);
                }
            }
        }

        private void openBlackPlaces(Picture picture) {
            for (int i = 0; i < starts.length; i++) {
                starts[i] = NONE;
            }
            for (int y = 0; y < height; y++) {
                for (int x = 0; x < width; x++) {
                    int place = (y + 1) * line + x + 1;
                    boolean black = picture.greyAt(y * width + x) < BLACK_BELOW;
                    if (black && place >= 0 && place < starts.length) {
                        starts[place] = OPEN;
                    }
                }
            }
        }

        private void spreadFrom(int start) {
            queued = 0;
            join(start, start);
            for (int next = 0; next < queue.length && next < queued; next++) {
                for (int down = -1; down <= 1; down++) {
                    int middle = queue[next] + down * line;
                    join(middle - 1, start);
                    join(middle, start);
                    join(middle + 1, start);
                }
            }
        }

        private void join(int place, int start) {
            if (place < 0 || place >= starts.length || starts[place] != OPEN) {
                return;
            }
            starts[place] = start;
            if (queued >= 0 && queued < queue.length) {
                queue[queued] = place;
                queued++;
            }
        }

        int count() {
            int found = 0;
            for (int place = 0; place < starts.length; place++) {
                if (starts[place] == place) {
                    found++;
                }
            }
            return found;
        }

        /** A part of just the same places has the same first place in both, and no place where they differ. */
        int countAlsoIn(Parts other) {
            markTorn(other);
            int kept = 0;
            for (int place = 0; place < starts.length && place < torn.length; place++) {
                if (starts[place] == place && !torn[place]) {
                    kept++;
                }
            }
            return kept;
        }

        private void markTorn(Parts other) {
            for (int i = 0; i < torn.length; i++) {
                torn[i] = false;
            }
            for (int place = 0; place < starts.length && place < other.starts.length; place++) {
                if (starts[place] != other.starts[place]) {
                    tear(starts[place]);
                    tear(other.starts[place]);
                }
            }
        }

        private void tear(int start) {
            if (start >= 0 && start < torn.length) {
                torn[start] = true;
            }
        }
    }

    /** Numbers as they came, and the same ones beside, the least first. */
    private static final class Corpus {
        private final double[] noted = new double[MOST_NOTES];
        private final double[] sorted = new double[MOST_NOTES];
        private int size;

        int size() {
            return size;
        }

        void empty() {
            size = 0;
        }

        /** How many there are then; NONE, and nothing done, if there is no room. */
        int add(double v) {
            if (size < 0 || size >= noted.length || size >= sorted.length) {
                return NONE;
            }
            noted[size] = v;
            int rank = size;
            while (rank > 0 && sorted[rank - 1] > v) {
                sorted[rank] = sorted[rank - 1];
                rank--;
            }
            sorted[rank] = v;
            size++;
            return size;
        }

        double average() {
            double sum = 0.0;
            for (int i = 0; i < size && i < noted.length; i++) {
                sum += noted[i];
            }
            return size > 0 ? sum / (double) size : 0.0;
        }

        double atRank(int i) {
            return i >= 0 && i < size && i < sorted.length ? sorted[i] : 0.0;
        }

        int winsAgainst(Corpus other) {
            int sum = 0;
            int both = Math.min(size, other.size);
            for (int i = 0; i < both && i < noted.length && i < other.noted.length; i++) {
                if (noted[i] > other.noted[i]) {
                    sum++;
                } else if (noted[i] < other.noted[i]) {
                    sum--;
                }
            }
            return sum;
        }
    }
}

import java.util.ArrayDeque;
import java.util.ArrayList;
import java.util.Collections;
import java.util.HashSet;
import java.util.List;
import java.util.Set;

/** The document told again in the slowest and plainest way, to measure the program against. */
final class Model {
    private static final int[] WEIGHTS = {1, 4, 6, 4, 1};

    final int width;
    final int height;
    final int channels;
    private int[][][][] samples;
    private final List<List<Double>> corpora = new ArrayList<>();

    Model(int width, int height, int channels) {
        this.width = width < 1 ? 1 : width > 24 ? 24 : width;
        this.height = height < 1 ? 1 : height > 24 ? 24 : height;
        this.channels = channels < 1 ? 1 : channels > 3 ? 3 : channels;
        clear();
    }

    void clear() {
        samples = new int[2][width][height][channels];
        corpora.clear();
        for (int i = 0; i < 8; i++) {
            corpora.add(new ArrayList<>());
        }
    }

    private void bound(int number, int end) {
        if (number < 0 || number >= end) {
            throw new IndexOutOfBoundsException();
        }
    }

    int put(boolean first, int x, int y, int channel, int v) {
        bound(x, width);
        bound(y, height);
        bound(channel, channels);
        if (v < 0 || v > 255) {
            throw new IllegalArgumentException();
        }
        int[] place = samples[first ? 0 : 1][x][y];
        int before = place[channel];
        place[channel] = v;
        return before;
    }

    int paint(boolean first, int v, int step) {
        int changed = 0;
        long number = v;
        for (int y = 0; y < height; y++) {
            for (int x = 0; x < width; x++) {
                for (int channel = 0; channel < channels; channel++) {
                    int sample = Math.floorMod(number, 256);
                    changed += put(first, x, y, channel, sample) != sample ? 1 : 0;
                    number += step;
                }
            }
        }
        return changed;
    }

    int copy() {
        int changed = 0;
        for (int x = 0; x < width; x++) {
            for (int y = 0; y < height; y++) {
                for (int channel = 0; channel < channels; channel++) {
                    int sample = samples[0][x][y][channel];
                    changed += put(false, x, y, channel, sample) != sample ? 1 : 0;
                }
            }
        }
        return changed;
    }

    double squared(int channel) {
        bound(channel, channels);
        long sum = 0;
        for (int x = 0; x < width; x++) {
            for (int y = 0; y < height; y++) {
                long difference = samples[0][x][y][channel] - samples[1][x][y][channel];
                sum += difference * difference;
            }
        }
        return (double) sum / (width * height);
    }

    int greatest() {
        int greatest = 0;
        for (int x = 0; x < width; x++) {
            for (int y = 0; y < height; y++) {
                for (int channel = 0; channel < channels; channel++) {
                    greatest = Math.max(greatest, Math.abs(samples[0][x][y][channel] - samples[1][x][y][channel]));
                }
            }
        }
        return greatest;
    }

    boolean equal() {
        return greatest() == 0;
    }

    int grey(boolean first, int x, int y) {
        bound(x, width);
        bound(y, height);
        int[] place = samples[first ? 0 : 1][x][y];
        return channels == 1 ? place[0] : channels == 2 ? (place[0] + place[1] + 1) / 2
            : (place[0] + 2 * place[1] + place[2] + 2) / 4;
    }

    private int scaled(boolean first, int scale, int x, int y) {
        if (scale == 0) {
            return grey(first, x, y);
        }
        int sum = 2;
        for (int i = 0; i < 4; i++) {
            sum += scaled(first, scale - 1, 2 * x + i % 2, 2 * y + i / 2);
        }
        return sum / 4;
    }

    int scales() {
        int scales = 0;
        while (width >> scales >= 5 && height >> scales >= 5) {
            scales++;
        }
        return scales;
    }

    private double cell(int scale, int left, int top) {
        long sumA = 0;
        long sumB = 0;
        long sumE = 0;
        long sumF = 0;
        long sumG = 0;
        for (int i = 0; i < 25; i++) {
            long weight = WEIGHTS[i % 5] * WEIGHTS[i / 5];
            long a = scaled(true, scale, left + i % 5, top + i / 5);
            long b = scaled(false, scale, left + i % 5, top + i / 5);
            sumA += weight * a;
            sumB += weight * b;
            sumE += weight * a * a;
            sumF += weight * b * b;
            sumG += weight * a * b;
        }
        double m = sumA * sumB;
        double p = sumA * sumA + sumB * sumB;
        double v = 256 * sumG - sumA * sumB;
        double q = 256 * sumE - sumA * sumA + 256 * sumF - sumB * sumB;
        return ((2 * m + 426053.0) * (2 * v + 3834474.0)) / ((p + 426053.0) * (q + 3834474.0));
    }

    double structure(int scale) {
        if (scale < 0 || scale > 4) {
            throw new IllegalArgumentException();
        }
        if (scale >= scales()) {
            throw new IllegalStateException();
        }
        double sum = 0.0;
        int cells = 0;
        for (int top = 0; top + 5 <= height >> scale; top++) {
            for (int left = 0; left + 5 <= width >> scale; left++) {
                sum += cell(scale, left, top);
                cells++;
            }
        }
        return sum / cells;
    }

    double map(int x, int y) {
        bound(x, width);
        bound(y, height);
        bound(x - 2, width - 4);
        bound(y - 2, height - 4);
        return cell(0, x - 2, y - 2);
    }

    private int step(boolean first, int x, int y) {
        return Math.abs(grey(first, x, y) - grey(first, x - 1, y));
    }

    double blocks(int size) {
        if (size < 2 || size > 24) {
            throw new IllegalArgumentException();
        }
        long[] sums = new long[2];
        int[] counts = new int[2];
        for (int x = 1; x < width; x++) {
            for (int y = 0; y < height; y++) {
                int sort = x % size == 0 ? 0 : 1;
                sums[sort] += step(false, x, y);
                counts[sort]++;
            }
        }
        return counts[0] == 0 || counts[1] == 0 ? 0.0 : (double) sums[0] / counts[0] - (double) sums[1] / counts[1];
    }

    double bands() {
        int gone = 0;
        int come = 0;
        for (int x = 1; x < width; x++) {
            for (int y = 0; y < height; y++) {
                gone += step(true, x, y) == 1 && step(false, x, y) == 0 ? 1 : 0;
                come += step(true, x, y) == 0 && step(false, x, y) == 1 ? 1 : 0;
            }
        }
        return width == 1 ? 0.0 : (double) (gone - come) / ((width - 1) * height);
    }

    private Set<Set<Integer>> parts(boolean first) {
        Set<Set<Integer>> parts = new HashSet<>();
        Set<Integer> seen = new HashSet<>();
        for (int place = 0; place < width * height; place++) {
            if (grey(first, place % width, place / width) < 128 && seen.add(place)) {
                parts.add(partFrom(first, place, seen));
            }
        }
        return parts;
    }

    private Set<Integer> partFrom(boolean first, int start, Set<Integer> seen) {
        Set<Integer> part = new HashSet<>();
        ArrayDeque<Integer> open = new ArrayDeque<>();
        open.add(start);
        while (!open.isEmpty()) {
            int place = open.pop();
            part.add(place);
            for (int y = Math.max(0, place / width - 1); y <= Math.min(height - 1, place / width + 1); y++) {
                for (int x = Math.max(0, place % width - 1); x <= Math.min(width - 1, place % width + 1); x++) {
                    if (grey(first, x, y) < 128 && seen.add(y * width + x)) {
                        open.push(y * width + x);
                    }
                }
            }
        }
        return part;
    }

    int signs(boolean all) {
        Set<Set<Integer>> parts = parts(true);
        if (!all) {
            parts.retainAll(parts(false));
        }
        return parts.size();
    }

    int told(int what) {
        int[] answers = {width, height, channels, scales(), parts(false).size()};
        return what >= 0 && what < answers.length ? answers[what] : -1;
    }

    int note(int corpus, double v) {
        bound(corpus, 8);
        if (Double.isNaN(v) || v < -1e6 || v > 1e6) {
            throw new IllegalArgumentException();
        }
        if (corpora.get(corpus).size() == 200) {
            throw new UnsupportedOperationException();
        }
        corpora.get(corpus).add(v + 0.0);
        return corpora.get(corpus).size();
    }

    double mean(int corpus) {
        bound(corpus, 8);
        if (corpora.get(corpus).isEmpty()) {
            throw new IllegalStateException();
        }
        double sum = 0.0;
        for (double v : corpora.get(corpus)) {
            sum += v;
        }
        return sum / corpora.get(corpus).size();
    }

    double ranked(int corpus, int i) {
        bound(corpus, 8);
        bound(i, corpora.get(corpus).size());
        List<Double> sorted = new ArrayList<>(corpora.get(corpus));
        Collections.sort(sorted);
        return sorted.get(i);
    }

    int wins(int corpus, int other) {
        bound(corpus, 8);
        bound(other, 8);
        int sum = 0;
        for (int i = 0; i < Math.min(corpora.get(corpus).size(), corpora.get(other).size()); i++) {
            sum += Double.compare(corpora.get(corpus).get(i), corpora.get(other).get(i));
        }
        return sum;
    }
}

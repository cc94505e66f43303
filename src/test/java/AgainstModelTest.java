import java.util.Random;
import java.util.function.Supplier;

/** All promises: long runs of drawn calls (the same ones each time) get the model's answers, and none of the machine's exceptions. */
public final class AgainstModelTest {
    private static final int RUNS = 600;
    private static final int CALLS = 512;
    private static final int MOST_CALLS_AT_ONCE = 4;

    private final Random random;
    private final VisualSums sums;
    private final Model model;
    private final boolean slow;
    private int made;

    private AgainstModelTest(int run) {
        random = new Random(run);
        int width = side();
        int height = side();
        int channels = number(0, 4);
        sums = new VisualSums(width, height, channels);
        model = new Model(width, height, channels);
        slow = run % 4 == 0;
    }

    public static void main(String[] args) {
        for (int run = 0; run < RUNS; run++) {
            AgainstModelTest test = new AgainstModelTest(run);
            while (test.made <= CALLS - MOST_CALLS_AT_ONCE) {
                test.call("run " + run + " after " + test.made + " calls: ");
            }
        }
        Check.end();
    }

    private int number(int from, int to) {
        return from + random.nextInt(to - from + 1);
    }

    private int side() {
        return random.nextInt(3) == 0 ? number(-1, 26) : number(1, 12);
    }

    private int at(int end) {
        int[] far = {-1, end, Integer.MIN_VALUE, Integer.MAX_VALUE};
        return random.nextInt(40) == 0 ? far[random.nextInt(4)] : random.nextInt(end);
    }

    private int sample() {
        int[] edges = {0, 127, 128, 255, 126, 129, 1, 254};
        int[] wrong = {-1, 256, Integer.MIN_VALUE, Integer.MAX_VALUE};
        int kind = random.nextInt(60);
        return kind == 0 ? wrong[random.nextInt(4)] : kind < 40 ? edges[random.nextInt(8)] : random.nextInt(256);
    }

    private double noted() {
        double[] edges = {0.0, -0.0, 1e6, -1e6, 1000000.0000000001, -1000000.0000000002, Double.NaN, Double.POSITIVE_INFINITY, 0.1};
        return random.nextInt(12) == 0 ? edges[random.nextInt(9)] : (random.nextInt(4001) - 2000) / 7.0;
    }

    private void compare(String what, Supplier<Object> call, Supplier<Object> due) {
        made++;
        Check.same(what, Seen.outcome(call), Seen.outcome(due));
    }

    private void call(String run) {
        switch (random.nextInt(slow ? 16 : 9)) {
            case 0, 1 -> change(run);
            case 2, 3 -> note(run);
            case 4 -> compare(run + "equal", sums::equal, model::equal);
            case 5 -> compare(run + "greatest", sums::greatest, model::greatest);
            case 6 -> readAPlace(run);
            case 7 -> compare(run + "bands", sums::bands, model::bands);
            case 8 -> readNotes(run);
            case 9, 10 -> readSigns(run);
            case 11, 12 -> readStructure(run);
            case 13 -> {
                int size = number(0, 26);
                compare(run + "blocks " + size, () -> sums.blocks(size), () -> model.blocks(size));
            }
            default -> change(run);
        }
    }

    private void change(String run) {
        int kind = random.nextInt(60);
        boolean first = random.nextBoolean();
        if (kind == 0 && random.nextInt(4) == 0) {
            made++;
            sums.clear();
            model.clear();
        } else if (kind < 3) {
            compare(run + "copy", sums::copy, model::copy);
        } else if (kind < 7) {
            int v = kind == 3 ? random.nextInt() : sample();
            int step = kind == 3 ? random.nextInt() : number(-3, 3);
            compare(run + "paint " + v + " " + step, () -> sums.paint(first, v, step), () -> model.paint(first, v, step));
        } else {
            int x = at(model.width);
            int y = at(model.height);
            int channel = at(model.channels);
            int v = sample();
            compare(run + "put", () -> sums.put(first, x, y, channel, v), () -> model.put(first, x, y, channel, v));
        }
    }

    private void note(String run) {
        int corpus = random.nextInt(3) == 0 ? at(8) : 2;
        double v = noted();
        compare(run + "note " + v, () -> sums.note(corpus, v), () -> model.note(corpus, v));
    }

    private void readAPlace(String run) {
        boolean first = random.nextBoolean();
        int x = at(model.width);
        int y = at(model.height);
        int channel = at(model.channels);
        compare(run + "grey", () -> sums.grey(first, x, y), () -> model.grey(first, x, y));
        compare(run + "map", () -> sums.map(x, y), () -> model.map(x, y));
        compare(run + "squared", () -> sums.squared(channel), () -> model.squared(channel));
    }

    private void readNotes(String run) {
        int corpus = at(8);
        int other = at(8);
        int i = at(60);
        compare(run + "mean", () -> sums.mean(corpus), () -> model.mean(corpus));
        compare(run + "ranked", () -> sums.ranked(2, i), () -> model.ranked(2, i));
        compare(run + "ranked, too", () -> sums.ranked(corpus, i % 5), () -> model.ranked(corpus, i % 5));
        compare(run + "wins", () -> sums.wins(corpus, other), () -> model.wins(corpus, other));
    }

    private void readSigns(String run) {
        boolean all = random.nextBoolean();
        int what = number(-1, 6);
        compare(run + "signs " + all, () -> sums.signs(all), () -> model.signs(all));
        compare(run + "told " + what, () -> sums.told(what), () -> model.told(what));
    }

    private void readStructure(String run) {
        int scale = number(-1, 5);
        compare(run + "structure " + scale, () -> sums.structure(scale), () -> model.structure(scale));
    }
}

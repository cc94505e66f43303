import java.util.function.Supplier;

/**
 * All that can be seen of a small object of some notes, as a text. A sample that is put to be seen is put back.
 * Some 150 calls for 5 by 5 places, so that an object can be seen twice within its 512.
 */
final class Seen {
    private final VisualSums sums;
    private final StringBuilder text = new StringBuilder();

    private Seen(VisualSums sums) {
        this.sums = sums;
    }

    static String of(VisualSums sums) {
        Seen seen = new Seen(sums);
        seen.whole();
        seen.samples(true);
        seen.samples(false);
        for (int corpus = 0; corpus < 8; corpus++) {
            seen.notes(corpus);
        }
        return seen.text.toString();
    }

    /** The answer, or which exception it was. */
    static String outcome(Supplier<Object> call) {
        try {
            return String.valueOf(call.get());
        } catch (RuntimeException e) {
            return e.getClass().getName();
        }
    }

    private void add(Supplier<Object> call) {
        text.append(outcome(call)).append(' ');
    }

    private void whole() {
        for (int what = 0; what < 5; what++) {
            int asked = what;
            add(() -> sums.told(asked));
        }
        add(sums::equal);
        add(sums::greatest);
        add(sums::bands);
        add(() -> sums.squared(0));
        add(() -> sums.blocks(2));
        add(() -> sums.structure(0));
        add(() -> sums.map(2, 2));
        add(() -> sums.signs(true));
        add(() -> sums.signs(false));
    }

    private void samples(boolean first) {
        int width = sums.told(0);
        int height = sums.told(1);
        int channels = sums.told(2);
        for (int y = 0; y < height; y++) {
            for (int x = 0; x < width; x++) {
                for (int channel = 0; channel < channels; channel++) {
                    int sample = sums.put(first, x, y, channel, 0);
                    sums.put(first, x, y, channel, sample);
                    text.append(sample).append(' ');
                }
            }
        }
    }

    private void notes(int corpus) {
        add(() -> sums.mean(corpus));
        add(() -> sums.wins(corpus, 0));
        String number = outcome(() -> sums.ranked(corpus, 0));
        for (int i = 1; i < 20 && !number.startsWith("java"); i++) {
            int next = i;
            text.append(number).append(' ');
            number = outcome(() -> sums.ranked(corpus, next));
        }
        text.append(number).append('\n');
    }
}

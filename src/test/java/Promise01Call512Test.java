// Promise 1, and all others: "An object is used for at most 512 calls after it has been made". The 512th is one of them.
import java.util.function.Function;

public final class Promise01Call512Test {
    private static final int CALLS = 512;

    public static void main(String[] args) {
        last("structure 0", sums -> sums.structure(0));
        last("structure 2", sums -> sums.structure(2));
        last("map", sums -> sums.map(21, 21));
        last("signs", sums -> sums.signs(false));
        last("parts", sums -> sums.told(4));
        last("bands", sums -> sums.bands());
        last("blocks", sums -> sums.blocks(8));
        last("squared", sums -> sums.squared(2));
        last("refused structure", sums -> Seen.outcome(() -> sums.structure(3)));
        last("refused put", sums -> Seen.outcome(() -> sums.put(true, 0, 0, 0, 256)));
        notes();
        Check.end();
    }

    private static void last(String what, Function<VisualSums, Object> call) {
        VisualSums sums = new VisualSums(24, 24, 3);
        sums.paint(true, 3, 11);
        sums.paint(false, 90, 35);
        String due = String.valueOf(call.apply(sums));
        for (int made = 3; made < CALLS - 1; made++) {
            call.apply(sums);
        }
        Check.same(what + ", call 512", String.valueOf(call.apply(sums)), due);
    }

    private static void notes() {
        VisualSums sums = new VisualSums(24, 24, 3);
        for (int made = 0; made < CALLS - 1; made++) {
            Check.same("note", sums.note(made / 200, made), made % 200 + 1);
        }
        Check.same("ranked, call 512", sums.ranked(2, 110), 510.0);
    }
}

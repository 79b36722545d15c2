import java.util.ArrayList;
import java.util.List;
import java.util.function.Supplier;
import java.util.function.ToIntFunction;

/**
 * Whether a call changed nothing: of two objects that were made alike one makes the call, and then
 * neither can be told from the other by anything that can be asked. Each part of what is told is
 * asked of a pair of its own, so that no object comes to 512 calls.
 */
final class Twins {
    /** Each has the name of his own number, so that the ledger tells which of 0 .. 5 an item is. */
    static final String HEIRS = "0;h91,h91,h91,h91,h91,h91;5-0,5-0,5-0,5-0,5-0,5-0";
    private static final int NONE = -4, INDEX = -13;
    private final Due due;

    Twins(Due due) {
        this.due = due;
    }

    private interface Part {
        List<Integer> of(FurrowNames x);
    }

    private static final Part[] PARTS = {Twins::now, Twins::past, Twins::image, Twins::tape, Twins::sheets};
    private static final String[] PARTS_NAMES = {"what is told now", "what may be undone", "the image", "the tape", "sheets"};

    /** A call with its answer, which changes nothing: refused, or one that only tells. */
    void changesNothing(String call, int answer, Supplier<FurrowNames> start, ToIntFunction<FurrowNames> made) {
        for (int p = 0; p < PARTS.length; p++) {
            FurrowNames one = start.get();
            due.is(call, made.applyAsInt(one), answer);
            List<Integer> then = PARTS[p].of(one);
            List<Integer> without = PARTS[p].of(start.get());
            due.is(call + " leaves " + PARTS_NAMES[p], then.equals(without) ? 1 : 0, 1);
        }
    }

    /** Whether the twins' eyes see a call that does change something: else they would prove nothing. */
    boolean sees(Supplier<FurrowNames> start, ToIntFunction<FurrowNames> made) {
        for (Part part : PARTS) {
            FurrowNames one = start.get();
            made.applyAsInt(one);
            if (!part.of(one).equals(part.of(start.get()))) {
                return true;
            }
        }
        return false;
    }

    private static List<Integer> now(FurrowNames x) {
        List<Integer> all = new ArrayList<>();
        for (int what = 0; what <= 8; what++) {
            all.add(x.count(what));
        }
        int men = x.count(0);
        int names = x.count(1);
        for (int m = 0; m < men; m++) {
            for (int what = 0; what <= 6; what++) {
                all.add(x.of(m, what));
            }
            for (int n = 0; n < names; n++) {
                all.add(x.values(m, n));
            }
        }
        for (int n = 0; n < names; n++) {
            for (int what = 0; what <= 2; what++) {
                all.add(x.named(n, what));
            }
        }
        all.add(x.seed(1));
        return all;
    }

    private static List<Integer> past(FurrowNames x) {
        List<Integer> all = new ArrayList<>();
        int men = x.count(0);
        int names = x.count(1);
        for (int left = x.undo(); left != NONE; left = x.undo()) {
            all.add(left);
            for (int what = 2; what <= 4; what++) {
                all.add(x.count(what));
            }
            for (int m = 0; m < men; m++) {
                for (int what = 1; what <= 4; what++) {
                    all.add(x.of(m, what));
                }
            }
            for (int n = 0; n < names; n++) {
                all.add(x.named(n, 0));
                all.add(x.named(n, 1));
            }
            all.add(x.seed(1));
        }
        return all;
    }

    private static List<Integer> image(FurrowNames x) {
        List<Integer> all = new ArrayList<>();
        all.add(x.restore());
        all.addAll(now(x));
        return all;
    }

    /** The tape is read with a text behind it, by which what begins a parish becomes one. */
    private static List<Integer> tape(FurrowNames x) {
        List<Integer> all = new ArrayList<>();
        all.add(Due.read(x, "2;13-17"));
        all.addAll(now(x));
        return all;
    }

    private static List<Integer> sheets(FurrowNames x) {
        List<Integer> all = new ArrayList<>();
        x.parish();
        Due.read(x, HEIRS);
        for (int s = 0; s < 4; s++) {
            for (int lane = 0; lane < 4; lane++) {
                int answer = x.item(s, lane, -1, 0);
                all.add(answer);
                if (answer == INDEX) {
                    items(x, s, lane, all);
                }
            }
            all.add(x.drop(s));
        }
        return all;
    }

    private static void items(FurrowNames x, int s, int lane, List<Integer> all) {
        boolean more = true;
        for (int i = 0; i < 24 && more; i++) {
            int which = -1;
            for (int m = 0; m < 6 && which < 0 && more; m++) {
                int set = x.ledger(m, s, lane, i, 1);
                more = set != INDEX;
                which = more && (set & 8) != 0 ? m : -1;
            }
            all.add(which);
        }
    }
}

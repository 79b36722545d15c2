import java.util.ArrayList;
import java.util.List;
import java.util.function.Supplier;

/**
 * "Answers below 0, of several the first that a call names"; "What is refused changes nothing, but as told":
 * each call by promise, the last numbers that it takes and the first that it does not, on both sides, and that
 * a refused call (and one that only tells) changed nothing.
 */
public final class RefusedTest {
    private static final Due DUE = new Due("RefusedTest");
    private static final Twins TWINS = new Twins(DUE);
    private static final int BAD = -1, NOT = -2, FULL = -3, NONE = -4, NULL = -11, CAST = -12, INDEX = -13, SIZE = -14;
    private static final int LOW = Integer.MIN_VALUE, HIGH = Integer.MAX_VALUE;
    private static final Supplier<FurrowNames> EMPTY = FurrowNames::new;
    private static final Supplier<FurrowNames> RICH = RefusedTest::rich;
    private static final Supplier<FurrowNames> FULL_PARISH = RefusedTest::full;
    private static final Supplier<FurrowNames> LATE = RefusedTest::late;

    public static void main(String[] args) {
        eyes();
        man();
        name();
        of();
        named();
        values();
        stones();
        type();
        parish();
        count();
        marches();
        drift();
        lastMarch();
        train();
        hire();
        swap();
        undo();
        seed();
        ahead();
        nameAhead();
        needs();
        field();
        parting();
        change();
        luck();
        top();
        image();
        ledger();
        film();
        sheet();
        drop();
        item();
        copyOfSheets();
        copyOfItems();
        DUE.end();
    }

    // ---- how the objects begin

    /** Six men and five names, of everything something; sheet 0 bytes, 1 shorts of no item, 2 ints, 3 missing. */
    private static FurrowNames rich() {
        FurrowNames x = new FurrowNames();
        int[][] men = {{0, 5, 2}, {1, 4, 3}, {2, 7, 1}, {3, 3, 4}, {4, 9, 4}, {0, 8, 2}};
        int[][] names = {{12, 4}, {18, 15}, {5, 0}, {20, 9}, {9, 9}};
        for (int[] m : men) {
            x.man(m[0], m[1], m[2]);
        }
        for (int[] n : names) {
            x.name(n[0], n[1]);
        }
        x.stones(9);
        x.seed(77);
        x.marches(2);
        x.train(3);
        x.image();
        x.seed(78);
        x.hire(1, 4);
        x.drift(2);
        x.marches(3);
        x.train(2);
        x.sheet(0, 0, 4);
        x.sheet(1, 1, 0);
        x.sheet(2, 2, 24);
        for (int i = 0; i < 4; i++) {
            x.item(0, 0, i, i + 1);
            x.item(2, 2, 5 * i, 5 - i);
        }
        for (char c : "3;r4".toCharArray()) {
            x.type(c);
        }
        return x;
    }

    /** Six men and six names; something to be undone; eighty letters. */
    private static FurrowNames full() {
        FurrowNames x = new FurrowNames();
        for (int i = 0; i < 6; i++) {
            x.man(i % 5, i, 1 + i % 4);
            x.name(3 * i, 20 - i);
        }
        x.marches(2);
        x.train(0);
        for (int i = 0; i < 80; i++) {
            x.type(i < 4 ? "3;p5".charAt(i) : ' ');
        }
        return x;
    }

    /** The last March but one: 9998. */
    private static FurrowNames late() {
        FurrowNames x = new FurrowNames();
        x.man(3, 9, 1);
        x.man(0, 8, 1);
        x.name(20, 0);
        for (int i = 0; i < 249; i++) {
            x.marches(40);
        }
        x.marches(38);
        return x;
    }

    private static int nameless() {
        FurrowNames x = rich();
        for (int m = 0; m < 6; m++) {
            if (x.of(m, 4) == NONE) {
                return m;
            }
        }
        return NONE;
    }

    /** Numbers that are not least .. most: the next on both sides, the farthest, and those that a cast would bring back. */
    private static int[] outside(int least, int most) {
        List<Integer> all = new ArrayList<>();
        long[] tried = {least - 1L, most + 1L, LOW, HIGH, LOW + (long) least, least + 256L, most - 256L, least + 65536L, most - 65536L};
        for (long v : tried) {
            if (v >= LOW && v <= HIGH && (v < least || v > most)) {
                all.add((int) v);
            }
        }
        return all.stream().mapToInt(v -> v).toArray();
    }

    /** Without a sight of what changes the twins would show nothing. */
    private static void eyes() {
        DUE.terms("What is refused changes nothing: the twins see what does change");
        FurrowNames x = rich();
        DUE.is("all eight are known", x.count(8), 8);
        DUE.is("one is called nothing", Integer.bitCount(x.count(4)), 5);
        DUE.is("stones", TWINS.sees(RICH, y -> y.stones(8)) ? 1 : 0, 1);
        DUE.is("the draw", TWINS.sees(RICH, y -> y.seed(9)) ? 1 : 0, 1);
        DUE.is("a letter", TWINS.sees(RICH, y -> y.type('1')) ? 1 : 0, 1);
        DUE.is("an item of bytes", TWINS.sees(RICH, y -> y.item(0, 0, 3, 0)) ? 1 : 0, 1);
        DUE.is("an item of ints", TWINS.sees(RICH, y -> y.item(2, 2, 23, 1)) ? 1 : 0, 1);
        DUE.is("another row", TWINS.sees(RICH, y -> y.sheet(1, 1, 1)) ? 1 : 0, 1);
        DUE.is("another lane", TWINS.sees(RICH, y -> y.sheet(1, 2, 0)) ? 1 : 0, 1);
        DUE.is("no row", TWINS.sees(RICH, y -> y.drop(1)) ? 1 : 0, 1);
        DUE.is("a row", TWINS.sees(RICH, y -> y.sheet(3, 0, 0)) ? 1 : 0, 1);
        DUE.is("as many oxen as ahead", TWINS.sees(RICH, y -> y.hire(0, 2)) ? 1 : 0, 1);
        DUE.is("an image", TWINS.sees(RICH, y -> y.image()) ? 1 : 0, 1);
        DUE.is("an image of nobody", TWINS.sees(EMPTY, y -> y.image()) ? 1 : 0, 1);
        DUE.is("a call that only tells", TWINS.sees(RICH, y -> y.count(0)) ? 1 : 0, 0);
    }

    // ---- 1 men, names

    private static void man() {
        DUE.promise(2, "man");
        for (int kind = 0; kind <= 4; kind++) {
            for (int hand = 0; hand <= 9; hand++) {
                for (int oxen = 1; oxen <= 4; oxen++) {
                    FurrowNames x = new FurrowNames();
                    DUE.is("man(" + kind + ", " + hand + ", " + oxen + ")", x.man(kind, hand, oxen), 0);
                    DUE.is("kind", x.of(0, 0), kind);
                    DUE.is("hand", x.of(0, 1), hand);
                    DUE.is("oxen", x.of(0, 2), oxen);
                }
            }
        }
        for (Supplier<FurrowNames> start : List.of(EMPTY, RICH, FULL_PARISH)) {
            for (int v : outside(0, 4)) {
                TWINS.changesNothing("man(" + v + ", 5, 2)", BAD, start, x -> x.man(v, 5, 2));
            }
            for (int v : outside(0, 9)) {
                TWINS.changesNothing("man(0, " + v + ", 2)", BAD, start, x -> x.man(0, v, 2));
            }
            for (int v : outside(1, 4)) {
                TWINS.changesNothing("man(0, 5, " + v + ")", BAD, start, x -> x.man(0, 5, v));
            }
        }
        FurrowNames x = new FurrowNames();
        for (int m = 0; m < 6; m++) {
            DUE.is("man " + m + " of six", x.man(4, 9, 4), m);
        }
        DUE.is("the seventh", x.man(4, 9, 4), FULL);
        TWINS.changesNothing("the seventh man", FULL, RICH, y -> y.man(0, 0, 1));
        TWINS.changesNothing("the seventh man", FULL, FULL_PARISH, y -> y.man(4, 9, 4));
    }

    private static void name() {
        DUE.promise(3, "name");
        for (int worth = 0; worth <= 20; worth++) {
            for (int debt = 0; debt <= 20; debt++) {
                FurrowNames x = new FurrowNames();
                DUE.is("name(" + worth + ", " + debt + ")", x.name(worth, debt), 0);
                DUE.is("worth", x.named(0, 0), worth);
                DUE.is("debt", x.named(0, 1), debt);
            }
        }
        for (Supplier<FurrowNames> start : List.of(EMPTY, RICH, FULL_PARISH)) {
            for (int v : outside(0, 20)) {
                TWINS.changesNothing("name(" + v + ", 3)", BAD, start, x -> x.name(v, 3));
                TWINS.changesNothing("name(3, " + v + ")", BAD, start, x -> x.name(3, v));
            }
        }
        FurrowNames x = rich();
        DUE.is("the sixth name", x.name(0, 20), 5);
        DUE.is("the seventh name", x.name(0, 20), FULL);
        TWINS.changesNothing("the seventh name", FULL, FULL_PARISH, y -> y.name(20, 0));
    }

    private static void of() {
        DUE.promise(4, "of");
        DUE.is("the last man's place", rich().of(5, 6) >= 0 ? 1 : 0, 1);
        for (int v : outside(0, 5)) {
            TWINS.changesNothing("of(" + v + ", 0)", BAD, RICH, x -> x.of(v, 0));
        }
        for (int v : outside(0, 6)) {
            TWINS.changesNothing("of(5, " + v + ")", BAD, RICH, x -> x.of(5, v));
        }
        for (int what = 0; what <= 6; what++) {
            int w = what;
            TWINS.changesNothing("of(2, " + w + ")", rich().of(2, w), RICH, x -> x.of(2, w));
            TWINS.changesNothing("of(0, " + w + ") of nobody", BAD, EMPTY, x -> x.of(0, w));
        }
    }

    private static void named() {
        DUE.promise(5, "named");
        DUE.is("worth of the last name: six men have taken all six", full().named(5, 0), 15);
        for (int v : outside(0, 4)) {
            TWINS.changesNothing("named(" + v + ", 0)", BAD, RICH, x -> x.named(v, 0));
        }
        for (int v : outside(0, 2)) {
            TWINS.changesNothing("named(4, " + v + ")", BAD, RICH, x -> x.named(4, v));
        }
        for (int what = 0; what <= 2; what++) {
            int w = what;
            TWINS.changesNothing("named(1, " + w + ")", rich().named(1, w), RICH, x -> x.named(1, w));
            TWINS.changesNothing("named(0, " + w + ") of none", BAD, EMPTY, x -> x.named(0, w));
        }
    }

    private static void values() {
        DUE.promise(6, "values");
        for (int v : outside(0, 5)) {
            TWINS.changesNothing("values(" + v + ", 0)", BAD, RICH, x -> x.values(v, 0));
        }
        for (int v : outside(0, 4)) {
            TWINS.changesNothing("values(0, " + v + ")", BAD, RICH, x -> x.values(0, v));
        }
        TWINS.changesNothing("values(5, 4)", rich().values(5, 4), RICH, x -> x.values(5, 4));
        TWINS.changesNothing("values(0, 0) of nobody", BAD, EMPTY, x -> x.values(0, 0));
        FurrowNames x = new FurrowNames();
        x.man(0, 0, 1);
        DUE.is("a man, no name", x.values(0, 0), BAD);
        FurrowNames y = new FurrowNames();
        y.name(0, 0);
        DUE.is("a name, no man", y.values(0, 0), BAD);
    }

    private static void stones() {
        DUE.promise(7, "stones");
        FurrowNames x = new FurrowNames();
        int were = 6;
        for (int v = 0; v <= 20; v++) {
            DUE.is("stones(" + v + ")", x.stones(v), were);
            DUE.is("stones", x.count(3), v);
            were = v;
        }
        for (int v : outside(0, 20)) {
            TWINS.changesNothing("stones(" + v + ")", BAD, RICH, y -> y.stones(v));
            TWINS.changesNothing("stones(" + v + ")", BAD, EMPTY, y -> y.stones(v));
        }
    }

    private static void type() {
        DUE.promise(8, "type");
        for (int letter = 32; letter <= 126; letter++) {
            DUE.is("type(" + letter + ")", new FurrowNames().type(letter), 1);
        }
        for (int v : outside(32, 126)) {
            TWINS.changesNothing("type(" + v + ")", BAD, RICH, x -> x.type(v));
            TWINS.changesNothing("type(" + v + ")", BAD, EMPTY, x -> x.type(v));
            TWINS.changesNothing("type(" + v + ") behind 80", BAD, FULL_PARISH, x -> x.type(v));
        }
        TWINS.changesNothing("the letter 81", FULL, FULL_PARISH, x -> x.type(' '));
        TWINS.changesNothing("the letter 81", FULL, FULL_PARISH, x -> x.type('2'));
        FurrowNames x = new FurrowNames();
        for (int i = 1; i <= 79; i++) {
            x.type(' ');
        }
        DUE.is("letter 80", x.type('2'), 80);
        DUE.is("letter 81", x.type('2'), FULL);
        DUE.is("only 80 are read", x.parish(), -20 - 80);
    }

    /** A fault empties the tape ("but as told"); all else stays. */
    private static void parish() {
        DUE.promise(9, "parish: a fault leaves all else");
        Supplier<FurrowNames> emptyTape = () -> {
            FurrowNames x = rich();
            x.parish();
            return x;
        };
        TWINS.changesNothing("the empty tape", -20, emptyTape, FurrowNames::parish);
        TWINS.changesNothing("the empty tape of nobody", -20, EMPTY, FurrowNames::parish);
        TWINS.changesNothing("a fault at the first letter", -20, emptyTape, x -> Due.read(x, "x"));
        TWINS.changesNothing("a fault in the stones", -20, emptyTape, x -> Due.read(x, "21;p52;1-1"));
        TWINS.changesNothing("a fault in the last debt", -20 - 12, emptyTape, x -> Due.read(x, "1;p52;1-1,2-21"));
        TWINS.changesNothing("a fault behind all", -20 - 13, emptyTape, x -> Due.read(x, "1;p52;1-1,2-2;"));
        TWINS.changesNothing("a fault at the end", -20 - 12, emptyTape, x -> Due.read(x, "1;p52;1-1,2-"));
        TWINS.changesNothing("a fault, of nobody", -20 - 12, EMPTY, x -> Due.read(x, "1;p52;1-1,2-"));
        FurrowNames x = rich();
        DUE.is("the tape as it was", x.parish(), -20 - 4);
        DUE.is("the tape is empty then", x.type('1'), 1);
    }

    private static void count() {
        DUE.promise(10, "count");
        for (int v : outside(0, 8)) {
            TWINS.changesNothing("count(" + v + ")", BAD, RICH, x -> x.count(v));
            TWINS.changesNothing("count(" + v + ")", BAD, EMPTY, x -> x.count(v));
        }
        for (int what = 0; what <= 8; what++) {
            int w = what;
            TWINS.changesNothing("count(" + w + ")", rich().count(w), RICH, x -> x.count(w));
            TWINS.changesNothing("count(" + w + ") of nobody", w == 3 ? 6 : 0, EMPTY, x -> x.count(w));
        }
    }

    // ---- what is done

    private static void marches() {
        DUE.promise(11, "marches");
        for (int v : outside(1, 40)) {
            TWINS.changesNothing("marches(" + v + ")", BAD, RICH, x -> x.marches(v));
            TWINS.changesNothing("marches(" + v + ")", BAD, EMPTY, x -> x.marches(v));
            TWINS.changesNothing("marches(" + v + ") in March 9998", BAD, LATE, x -> x.marches(v));
        }
        for (int n : new int[] {1, 2, 39, 40}) {
            FurrowNames x = new FurrowNames();
            DUE.is("marches(" + n + ")", x.marches(n), 0);
            DUE.is("March", x.count(2), n);
        }
    }

    private static void drift() {
        DUE.promise(15, "drift");
        for (int v : outside(1, 40)) {
            TWINS.changesNothing("drift(" + v + ")", BAD, RICH, x -> x.drift(v));
            TWINS.changesNothing("drift(" + v + ")", BAD, EMPTY, x -> x.drift(v));
            TWINS.changesNothing("drift(" + v + ") in March 9998", BAD, LATE, x -> x.drift(v));
        }
        for (int n : new int[] {1, 2, 39, 40}) {
            FurrowNames x = new FurrowNames();
            x.man(0, 0, 1);
            DUE.is("drift(" + n + ")", x.drift(n), n);
            DUE.is("March", x.count(2), n);
        }
    }

    private static void lastMarch() {
        DUE.promise(11, "FULL: the MARCH would be above 9999");
        DUE.is("March", late().count(2), 9998);
        for (int n = 2; n <= 40; n++) {
            int v = n;
            DUE.is("marches(" + n + ") in March 9998", late().marches(v), FULL);
            DUE.is("drift(" + n + ") in March 9998", late().drift(v), FULL);
        }
        for (int n : new int[] {2, 40}) {
            TWINS.changesNothing("marches(" + n + ") in March 9998", FULL, LATE, x -> x.marches(n));
            TWINS.changesNothing("drift(" + n + ") in March 9998", FULL, LATE, x -> x.drift(n));
        }
        Supplier<FurrowNames> last = () -> {
            FurrowNames x = late();
            DUE.is("the last March", x.marches(1), 1);
            return x;
        };
        DUE.is("March", last.get().count(2), 9999);
        for (int n : new int[] {1, 40}) {
            TWINS.changesNothing("marches(" + n + ") in March 9999", FULL, last, x -> x.marches(n));
            TWINS.changesNothing("drift(" + n + ") in March 9999", FULL, last, x -> x.drift(n));
        }
        for (int n : new int[] {0, 41}) {
            TWINS.changesNothing("marches(" + n + ") in March 9999", BAD, last, x -> x.marches(n));
            TWINS.changesNothing("drift(" + n + ") in March 9999", BAD, last, x -> x.drift(n));
        }
        FurrowNames x = late();
        DUE.is("a drift to the last March: one of two is called nothing", x.drift(1), 1);
        DUE.is("March", x.count(2), 9999);
        DUE.is("undone", x.undo(), 7);
        DUE.is("March", x.count(2), 9998);
        DUE.is("the last March again", x.marches(1), 1);
        DUE.is("none behind it", x.marches(1), FULL);
        DUE.is("but a parish begins anew", Due.read(x, "1;p52;1-1"), 1);
        DUE.is("March", x.count(2), 0);
        DUE.is("forty", x.marches(40), 1);
    }

    private static void train() {
        DUE.promise(12, "train");
        for (int v : outside(0, 5)) {
            TWINS.changesNothing("train(" + v + ")", BAD, RICH, x -> x.train(v));
        }
        TWINS.changesNothing("train(0) of nobody", BAD, EMPTY, x -> x.train(0));
        TWINS.changesNothing("a hand of 9", NOT, RICH, x -> x.train(4));
        FurrowNames x = full();
        for (int hand = 6; hand <= 9; hand++) {
            DUE.is("the last man's hand", x.train(5), hand);
        }
        DUE.is("it is 9", x.train(5), NOT);
        FurrowNames y = new FurrowNames();
        y.man(0, 0, 1);
        for (int hand = 1; hand <= 9; hand++) {
            DUE.is("from 0", y.train(0), hand);
        }
        DUE.is("it is 9", y.train(0), NOT);
        DUE.is("NOT is nothing to be undone", y.undo(), 7);
        DUE.is("it was 8", y.train(0), 9);
    }

    private static void hire() {
        DUE.promise(13, "hire");
        for (int v : outside(0, 5)) {
            TWINS.changesNothing("hire(" + v + ", 2)", BAD, RICH, x -> x.hire(v, 2));
        }
        for (int v : outside(1, 4)) {
            TWINS.changesNothing("hire(5, " + v + ")", BAD, RICH, x -> x.hire(5, v));
        }
        TWINS.changesNothing("hire(0, 1) of nobody", BAD, EMPTY, x -> x.hire(0, 1));
        FurrowNames x = rich();
        int were = 2;
        for (int n : new int[] {1, 4, 4, 3, 2, 1}) {
            DUE.is("hire(5, " + n + ")", x.hire(5, n), were);
            DUE.is("oxen", x.of(5, 2), n);
            were = n;
        }
    }

    private static void swap() {
        DUE.promise(14, "swap");
        int none = nameless();
        int one = none == 0 ? 1 : 0;
        for (int v : outside(0, 5)) {
            TWINS.changesNothing("swap(" + v + ", " + one + ")", BAD, RICH, x -> x.swap(v, one));
            TWINS.changesNothing("swap(" + one + ", " + v + ")", BAD, RICH, x -> x.swap(one, v));
            TWINS.changesNothing("nothing and " + v, BAD, RICH, x -> x.swap(none, v));
            TWINS.changesNothing(v + " and nothing", BAD, RICH, x -> x.swap(v, none));
            TWINS.changesNothing("both " + v, BAD, RICH, x -> x.swap(v, v));
        }
        for (int m = 0; m < 6; m++) {
            int v = m;
            TWINS.changesNothing("alike, " + m, BAD, RICH, x -> x.swap(v, v));
        }
        TWINS.changesNothing("one is called nothing", NOT, RICH, x -> x.swap(none, one));
        TWINS.changesNothing("the other is called nothing", NOT, RICH, x -> x.swap(one, none));
        TWINS.changesNothing("of nobody", BAD, EMPTY, x -> x.swap(0, 1));
        FurrowNames y = new FurrowNames();
        y.man(0, 0, 1);
        y.man(0, 0, 1);
        DUE.is("both are called nothing", y.swap(0, 1), NOT);
        FurrowNames x = Due.parish(Twins.HEIRS);
        x.marches(1);
        DUE.is("the first and the last", x.swap(0, 5), 5);
        DUE.is("the last and the first", x.swap(5, 0), 5);
        DUE.is("as they were", x.of(0, 4), 0);
    }

    private static void undo() {
        DUE.promise(16, "undo");
        TWINS.changesNothing("undo() of nobody", NONE, EMPTY, FurrowNames::undo);
        Supplier<FurrowNames> undone = () -> {
            FurrowNames x = rich();
            for (int left = 7; left >= 0; left--) {
                DUE.is("undo()", x.undo(), left);
            }
            return x;
        };
        TWINS.changesNothing("undo() behind all eight", NONE, undone, FurrowNames::undo);
        Supplier<FurrowNames> sixth = () -> {
            FurrowNames x = rich();
            x.name(1, 1);
            return x;
        };
        TWINS.changesNothing("undo() behind a new name", NONE, sixth, FurrowNames::undo);
    }

    private static void seed() {
        DUE.promise(17, "seed");
        for (int v : new int[] {-1, -2, LOW, LOW + 1, -65536, -77}) {
            TWINS.changesNothing("seed(" + v + ")", BAD, RICH, x -> x.seed(v));
            TWINS.changesNothing("seed(" + v + ")", BAD, EMPTY, x -> x.seed(v));
        }
        FurrowNames x = new FurrowNames();
        int was = 1;
        for (int v : new int[] {0, HIGH, 1, HIGH - 1, 65536}) {
            DUE.is("seed(" + v + ")", x.seed(v), was);
            was = v;
        }
    }

    // ---- 2 foretold

    private static void ahead() {
        DUE.promise(18, "ahead");
        for (int v : outside(0, 5)) {
            TWINS.changesNothing("ahead(" + v + ", 1, 0)", BAD, RICH, x -> x.ahead(v, 1, 0));
        }
        for (int v : outside(0, 60)) {
            TWINS.changesNothing("ahead(0, " + v + ", 0)", BAD, RICH, x -> x.ahead(0, v, 0));
        }
        for (int v : outside(0, 2)) {
            TWINS.changesNothing("ahead(0, 1, " + v + ")", BAD, RICH, x -> x.ahead(0, 1, v));
        }
        TWINS.changesNothing("ahead(0, 0, 0) of nobody", BAD, EMPTY, x -> x.ahead(0, 0, 0));
        for (int what = 0; what <= 2; what++) {
            int w = what;
            int[] asOf = {4, 3, 1};
            TWINS.changesNothing("ahead(5, 0, " + w + ")", rich().of(5, asOf[w]), RICH, x -> x.ahead(5, 0, w));
            TWINS.changesNothing("ahead(5, 60, " + w + ")", behind(60).of(5, asOf[w]), RICH, x -> x.ahead(5, 60, w));
        }
    }

    /** The rich parish behind n Marches more. */
    private static FurrowNames behind(int n) {
        FurrowNames x = rich();
        for (int i = 0; i < n; i++) {
            x.marches(1);
        }
        return x;
    }

    private static void nameAhead() {
        DUE.promise(19, "nameAhead");
        for (int v : outside(0, 4)) {
            TWINS.changesNothing("nameAhead(" + v + ", 1, 0)", BAD, RICH, x -> x.nameAhead(v, 1, 0));
        }
        for (int v : outside(0, 60)) {
            TWINS.changesNothing("nameAhead(0, " + v + ", 0)", BAD, RICH, x -> x.nameAhead(0, v, 0));
        }
        for (int v : outside(0, 1)) {
            TWINS.changesNothing("nameAhead(0, 1, " + v + ")", BAD, RICH, x -> x.nameAhead(0, 1, v));
        }
        TWINS.changesNothing("nameAhead(0, 0, 0) of none", BAD, EMPTY, x -> x.nameAhead(0, 0, 0));
        for (int what = 0; what <= 1; what++) {
            int w = what;
            TWINS.changesNothing("nameAhead(4, 0, " + w + ")", rich().named(4, w), RICH, x -> x.nameAhead(4, 0, w));
            TWINS.changesNothing("nameAhead(4, 60, " + w + ")", behind(60).named(4, w), RICH, x -> x.nameAhead(4, 60, w));
        }
    }

    private static void needs() {
        DUE.promise(20, "needs");
        for (int v : outside(0, 5)) {
            TWINS.changesNothing("needs(" + v + ", 0)", BAD, RICH, x -> x.needs(v, 0));
        }
        for (int v : outside(0, 4)) {
            TWINS.changesNothing("needs(0, " + v + ")", BAD, RICH, x -> x.needs(0, v));
        }
        TWINS.changesNothing("needs(0, 0) of nobody", BAD, EMPTY, x -> x.needs(0, 0));
        for (int m = 0; m < 6; m++) {
            int v = m;
            TWINS.changesNothing("needs(" + m + ", 3)", rich().needs(v, 3), RICH, x -> x.needs(v, 3));
        }
        Supplier<FurrowNames> behind9 = () -> Due.parish("6;p91,p01;9-0");
        TWINS.changesNothing("none", NONE, behind9, x -> x.needs(1, 0));
    }

    private static void field() {
        DUE.promise(21, "field");
        for (int v : outside(0, 5)) {
            TWINS.changesNothing("field(" + v + ")", BAD, RICH, x -> x.field(v));
        }
        TWINS.changesNothing("field(0) of nobody", BAD, EMPTY, x -> x.field(0));
        for (int m = 0; m < 6; m++) {
            int v = m;
            TWINS.changesNothing("field(" + m + ")", rich().field(v), RICH, x -> x.field(v));
        }
    }

    private static void parting() {
        DUE.promise(22, "parting");
        for (int v : outside(0, 5)) {
            TWINS.changesNothing("parting(" + v + ")", BAD, RICH, x -> x.parting(v));
        }
        for (int v : new int[] {-5, -3, -2, -1, 0, 5}) {
            TWINS.changesNothing("parting(" + v + ") of nobody", BAD, EMPTY, x -> x.parting(v));
        }
        TWINS.changesNothing("parting(NONE) of nobody", 0, EMPTY, x -> x.parting(NONE));
        for (int v : new int[] {-5, -3, -2}) {
            TWINS.changesNothing("parting(" + v + ")", BAD, RICH, x -> x.parting(v));
        }
        for (int v : new int[] {NONE, 0, 1, 2, 3, 4, 5}) {
            TWINS.changesNothing("parting(" + v + ")", rich().parting(v), RICH, x -> x.parting(v));
        }
    }

    private static void change() {
        DUE.promise(23, "change");
        for (int v : new int[] {-2, -3, NONE, -5, LOW, LOW + 1, -65536}) {
            TWINS.changesNothing("change(" + v + ")", BAD, RICH, x -> x.change(v));
            TWINS.changesNothing("change(" + v + ")", BAD, EMPTY, x -> x.change(v));
        }
        for (int v : new int[] {0, 1, HIGH}) {
            TWINS.changesNothing("change(" + v + ") of nobody", NONE, EMPTY, x -> x.change(v));
        }
        TWINS.changesNothing("change(-1) of nobody", 0, EMPTY, x -> x.change(-1));
        int many = rich().change(-1);
        TWINS.changesNothing("change(-1)", many, RICH, x -> x.change(-1));
        TWINS.changesNothing("one more than there are", NONE, RICH, x -> x.change(many));
        TWINS.changesNothing("change(HIGH)", NONE, RICH, x -> x.change(HIGH));
    }

    private static void luck() {
        DUE.promise(24, "luck");
        for (int v : outside(0, 5)) {
            TWINS.changesNothing("luck(" + v + ", 0, 0)", BAD, RICH, x -> x.luck(v, 0, 0));
            TWINS.changesNothing("luck(" + v + ", NONE, 0)", BAD, RICH, x -> x.luck(v, NONE, 0));
        }
        for (int v : outside(0, 4)) {
            TWINS.changesNothing("luck(0, " + v + ", 0)", BAD, RICH, x -> x.luck(0, v, 0));
        }
        for (int v : new int[] {-5, -3, -2}) {
            TWINS.changesNothing("luck(0, " + v + ", 0)", BAD, RICH, x -> x.luck(0, v, 0));
        }
        for (int v : outside(0, 1)) {
            TWINS.changesNothing("luck(0, 0, " + v + ")", BAD, RICH, x -> x.luck(0, 0, v));
            TWINS.changesNothing("luck(0, NONE, " + v + ")", BAD, RICH, x -> x.luck(0, NONE, v));
        }
        TWINS.changesNothing("of nobody", BAD, EMPTY, x -> x.luck(0, NONE, 0));
        for (int v : new int[] {NONE, 0, 4}) {
            TWINS.changesNothing("luck(5, " + v + ", 0)", rich().luck(5, v, 0), RICH, x -> x.luck(5, v, 0));
            TWINS.changesNothing("luck(5, " + v + ", 1)", rich().luck(5, v, 1), RICH, x -> x.luck(5, v, 1));
        }
    }

    private static void top() {
        DUE.promise(25, "top");
        for (int v : outside(0, 5)) {
            TWINS.changesNothing("top(" + v + ", 1)", BAD, RICH, x -> x.top(v, 1));
        }
        for (int v : outside(1, 60)) {
            TWINS.changesNothing("top(0, " + v + ")", BAD, RICH, x -> x.top(0, v));
        }
        TWINS.changesNothing("top(0, 1) of nobody", BAD, EMPTY, x -> x.top(0, 1));
        TWINS.changesNothing("top(5, 1)", 1, RICH, x -> x.top(5, 1));
        TWINS.changesNothing("top(5, 60)", rich().top(5, 60), RICH, x -> x.top(5, 60));
    }

    private static void image() {
        DUE.promise(27, "restore");
        TWINS.changesNothing("restore() without an image", NONE, EMPTY, FurrowNames::restore);
        TWINS.changesNothing("restore() without an image", NONE, FULL_PARISH, FurrowNames::restore);
        FurrowNames x = new FurrowNames();
        DUE.is("image() of nobody", x.image(), 1);
        DUE.is("restore()", x.restore(), 1);
        DUE.is("restore() again", x.restore(), 1);
    }

    // ---- 3 sheets

    private static void ledger() {
        DUE.promise(28, "ledger");
        for (int v : outside(0, 5)) {
            TWINS.changesNothing("man " + v, BAD, RICH, x -> x.ledger(v, 2, 2, 0, 1));
            TWINS.changesNothing("man " + v + " by a missing sheet", BAD, RICH, x -> x.ledger(v, 3, 0, -1, 1));
        }
        for (int v : outside(0, 3)) {
            TWINS.changesNothing("sheet " + v, BAD, RICH, x -> x.ledger(0, v, 2, 0, 1));
            TWINS.changesNothing("lane " + v, BAD, RICH, x -> x.ledger(0, 2, v, 0, 1));
            TWINS.changesNothing("lane " + v + " of a missing sheet", BAD, RICH, x -> x.ledger(0, 3, v, -1, 1));
        }
        for (int v : outside(1, 8)) {
            TWINS.changesNothing("n " + v, BAD, RICH, x -> x.ledger(0, 2, 2, 0, v));
            TWINS.changesNothing("n " + v + " of a missing sheet", BAD, RICH, x -> x.ledger(0, 3, 2, 0, v));
            TWINS.changesNothing("n " + v + " of another lane", BAD, RICH, x -> x.ledger(0, 2, 1, -1, v));
        }
        TWINS.changesNothing("of nobody", BAD, EMPTY, x -> x.ledger(0, 0, 0, 0, 1));
        for (int lane = 0; lane < 4; lane++) {
            int v = lane;
            TWINS.changesNothing("a missing sheet as lane " + v, NULL, RICH, x -> x.ledger(0, 3, v, -1, 1));
        }
        for (int v : new int[] {0, 1, 3}) {
            TWINS.changesNothing("lane " + v + " for 2", CAST, RICH, x -> x.ledger(0, 2, v, 24, 8));
        }
        for (int v : outside(0, 16)) {
            TWINS.changesNothing("8 items from " + v, INDEX, RICH, x -> x.ledger(0, 2, 2, v, 8));
        }
        for (int v : outside(0, 23)) {
            TWINS.changesNothing("1 item from " + v, INDEX, RICH, x -> x.ledger(0, 2, 2, v, 1));
        }
        TWINS.changesNothing("1 item of no item", INDEX, RICH, x -> x.ledger(0, 1, 1, 0, 1));
        TWINS.changesNothing("5 of 4 items", INDEX, RICH, x -> x.ledger(0, 0, 0, 0, 5));
        for (int[] v : new int[][] {{0, 8}, {16, 8}, {0, 1}, {23, 1}}) {
            TWINS.changesNothing("taken", rich().ledger(4, 2, 2, v[0], v[1]), RICH, x -> x.ledger(4, 2, 2, v[0], v[1]));
            DUE.is("a set of 5 kinds", rich().ledger(4, 2, 2, v[0], v[1]) >> 5, 0);
        }
    }

    private static void film() {
        DUE.promise(29, "film");
        for (int v : outside(0, 5)) {
            TWINS.changesNothing("man " + v, BAD, RICH, x -> x.film(v, 1, 2, 2, 0));
            TWINS.changesNothing("man " + v + " to a missing sheet", BAD, RICH, x -> x.film(v, 1, 3, 0, -1));
        }
        for (int v : outside(0, 3)) {
            TWINS.changesNothing("sheet " + v, BAD, RICH, x -> x.film(0, 1, v, 2, 0));
            TWINS.changesNothing("lane " + v, BAD, RICH, x -> x.film(0, 1, 2, v, 0));
            TWINS.changesNothing("lane " + v + " of a missing sheet", BAD, RICH, x -> x.film(0, 1, 3, v, -1));
        }
        for (int v : outside(1, 24)) {
            TWINS.changesNothing("n " + v, BAD, RICH, x -> x.film(0, v, 2, 2, 0));
            TWINS.changesNothing("n " + v + " to a missing sheet", BAD, RICH, x -> x.film(0, v, 3, 2, 0));
            TWINS.changesNothing("n " + v + " to another lane", BAD, RICH, x -> x.film(0, v, 2, 1, -1));
        }
        TWINS.changesNothing("of nobody", BAD, EMPTY, x -> x.film(0, 1, 0, 0, 0));
        for (int lane = 0; lane < 4; lane++) {
            int v = lane;
            TWINS.changesNothing("a missing sheet as lane " + v, NULL, RICH, x -> x.film(0, 1, 3, v, -1));
        }
        for (int v : new int[] {0, 1, 3}) {
            TWINS.changesNothing("lane " + v + " for 2", CAST, RICH, x -> x.film(0, 24, 2, v, 24));
        }
        for (int v : outside(0, 0)) {
            TWINS.changesNothing("24 items from " + v, INDEX, RICH, x -> x.film(0, 24, 2, 2, v));
        }
        for (int v : outside(0, 23)) {
            TWINS.changesNothing("1 item from " + v, INDEX, RICH, x -> x.film(0, 1, 2, 2, v));
        }
        TWINS.changesNothing("1 item to no item", INDEX, RICH, x -> x.film(0, 1, 1, 1, 0));
        TWINS.changesNothing("5 to 4 items", INDEX, RICH, x -> x.film(0, 5, 0, 0, 0));
        for (int[] v : new int[][] {{24, 0}, {1, 0}, {1, 23}, {2, 22}}) {
            FurrowNames x = rich();
            DUE.is("film of " + v[0] + " to " + v[1], x.film(3, v[0], 2, 2, v[1]), v[0]);
            DUE.is("film to bytes", x.film(3, 4, 0, 0, 0), 4);
            DUE.is("his kind is among them", x.ledger(3, 0, 0, 0, 4) & 8, 8);
            DUE.is("nothing else is changed", x.count(2), rich().count(2));
        }
    }

    private static void sheet() {
        DUE.promise(30, "sheet");
        for (int v : outside(0, 3)) {
            for (int n : new int[] {0, 24, 25, -1, LOW}) {
                TWINS.changesNothing("sheet(" + v + ", 2, " + n + ")", BAD, RICH, x -> x.sheet(v, 2, n));
                TWINS.changesNothing("sheet(2, " + v + ", " + n + ")", BAD, RICH, x -> x.sheet(2, v, n));
            }
        }
        for (int n : new int[] {25, 26, 256, 65536, HIGH}) {
            TWINS.changesNothing("sheet(2, 2, " + n + ")", BAD, RICH, x -> x.sheet(2, 2, n));
            TWINS.changesNothing("sheet(3, 2, " + n + ")", BAD, RICH, x -> x.sheet(3, 2, n));
        }
        for (int n : new int[] {-1, -2, -24, -256, LOW, LOW + 24}) {
            TWINS.changesNothing("sheet(2, 2, " + n + ")", SIZE, RICH, x -> x.sheet(2, 2, n));
            TWINS.changesNothing("sheet(0, 3, " + n + ")", SIZE, EMPTY, x -> x.sheet(0, 3, n));
        }
        for (int s = 0; s < 4; s++) {
            for (int lane = 0; lane < 4; lane++) {
                for (int n = 0; n <= 24; n++) {
                    FurrowNames x = rich();
                    DUE.is("sheet(" + s + ", " + lane + ", " + n + ")", x.sheet(s, lane, n), n);
                    DUE.is("drop", x.drop(s), n);
                }
            }
        }
    }

    private static void drop() {
        DUE.promise(31, "drop");
        for (int v : outside(0, 3)) {
            TWINS.changesNothing("drop(" + v + ")", BAD, RICH, x -> x.drop(v));
            TWINS.changesNothing("drop(" + v + ")", BAD, EMPTY, x -> x.drop(v));
        }
        for (int s = 0; s < 4; s++) {
            int v = s;
            TWINS.changesNothing("drop(" + v + ") of nothing", NULL, EMPTY, x -> x.drop(v));
        }
        TWINS.changesNothing("drop(3) of nothing", NULL, RICH, x -> x.drop(3));
        int[] had = {4, 0, 24, NULL};
        for (int s = 0; s < 4; s++) {
            FurrowNames x = rich();
            DUE.is("drop(" + s + ")", x.drop(s), had[s]);
            DUE.is("it holds nothing then", x.drop(s), NULL);
        }
    }

    private static void item() {
        DUE.promise(32, "item");
        for (int v : outside(0, 3)) {
            TWINS.changesNothing("sheet " + v, BAD, RICH, x -> x.item(v, 2, 0, 1L));
            TWINS.changesNothing("lane " + v, BAD, RICH, x -> x.item(2, v, 0, 1L));
            TWINS.changesNothing("lane " + v + " of a missing sheet", BAD, RICH, x -> x.item(3, v, -1, 1L));
        }
        for (int lane = 0; lane < 4; lane++) {
            int v = lane;
            TWINS.changesNothing("a missing sheet as lane " + v, NULL, RICH, x -> x.item(3, v, -1, 1L));
            TWINS.changesNothing("a missing sheet as lane " + v, NULL, EMPTY, x -> x.item(0, v, 0, 1L));
        }
        for (int v : new int[] {0, 1, 3}) {
            TWINS.changesNothing("lane " + v + " for 2", CAST, RICH, x -> x.item(2, v, 24, 1L));
            TWINS.changesNothing("lane " + v + " for 2", CAST, RICH, x -> x.item(2, v, 0, 1L));
        }
        for (int v : outside(0, 23)) {
            TWINS.changesNothing("item " + v, INDEX, RICH, x -> x.item(2, 2, v, 1L));
        }
        for (int v : outside(0, 3)) {
            TWINS.changesNothing("item " + v + " of 4", INDEX, RICH, x -> x.item(0, 0, v, 1L));
        }
        TWINS.changesNothing("an item of no item", INDEX, RICH, x -> x.item(1, 1, 0, 1L));
        for (int i : new int[] {0, 23}) {
            FurrowNames x = rich();
            DUE.is("item " + i, x.item(2, 2, i, 3L), 1);
            x.parish();
            Due.read(x, Twins.HEIRS);
            DUE.is("it is 3", x.ledger(3, 2, 2, i, 1) & 8, 8);
        }
    }

    private static void copyOfSheets() {
        DUE.promise(33, "copy: of sheets that are not, are missing, are of other lanes");
        for (int v : outside(0, 3)) {
            TWINS.changesNothing("from sheet " + v, BAD, RICH, x -> x.copy(v, 0, 2, 0, 1));
            TWINS.changesNothing("to sheet " + v, BAD, RICH, x -> x.copy(2, 0, v, 0, 1));
            TWINS.changesNothing("from sheet " + v + " to a missing one", BAD, RICH, x -> x.copy(v, 0, 3, 0, 1));
            TWINS.changesNothing("from a missing one to sheet " + v, BAD, RICH, x -> x.copy(3, -1, v, -1, -1));
        }
        TWINS.changesNothing("from nothing", NULL, RICH, x -> x.copy(3, -1, 2, -1, -1));
        TWINS.changesNothing("to nothing", NULL, RICH, x -> x.copy(2, -1, 3, -1, -1));
        TWINS.changesNothing("nothing to nothing", NULL, RICH, x -> x.copy(3, 0, 3, 0, 0));
        TWINS.changesNothing("all missing", NULL, EMPTY, x -> x.copy(0, 0, 1, 0, 0));
        for (int[] v : new int[][] {{0, 1}, {1, 0}, {0, 2}, {2, 0}, {1, 2}, {2, 1}}) {
            TWINS.changesNothing("unlike lanes, " + v[0] + " to " + v[1], CAST, RICH, x -> x.copy(v[0], 0, v[1], 0, 0));
            TWINS.changesNothing("unlike lanes and no such items", CAST, RICH, x -> x.copy(v[0], -1, v[1], 25, -1));
        }
    }

    private static void copyOfItems() {
        DUE.promise(33, "copy: of items that are not");
        Supplier<FurrowNames> start = () -> {
            FurrowNames x = rich();
            x.sheet(3, 2, 5);
            return x;
        };
        int[][] bad = {{-1, 0, 0}, {-1, 0, 1}, {25, 0, 0}, {24, 0, 1}, {20, 0, 5}, {0, -1, 0}, {0, -1, 1}, {0, 6, 0}, {0, 5, 1},
            {0, 1, 5}, {0, 0, 6}, {0, 0, -1}, {24, 5, -1}, {0, 0, 25}, {LOW, 0, 0}, {HIGH, 0, 0}, {0, LOW, 0}, {0, HIGH, 0},
            {0, 0, LOW}, {0, 0, HIGH}, {HIGH, HIGH, HIGH}, {LOW, LOW, LOW}, {LOW, LOW, HIGH}, {1, 1, HIGH}, {HIGH, 0, 1}, {0, HIGH, 1}};
        for (int[] v : bad) {
            String call = v[2] + " items from " + v[0] + " to " + v[1];
            TWINS.changesNothing(call, INDEX, start, x -> x.copy(2, v[0], 3, v[1], v[2]));
        }
        int[][] good = {{0, 0, 0}, {24, 5, 0}, {24, 0, 0}, {0, 5, 0}};
        for (int[] v : good) {
            TWINS.changesNothing("no items from " + v[0] + " to " + v[1], 0, start, x -> x.copy(2, v[0], 3, v[1], 0));
        }
        DUE.is("the last item to the last", start.get().copy(2, 23, 3, 4, 1), 1);
        DUE.is("all of it", start.get().copy(2, 19, 3, 0, 5), 5);
        DUE.is("all of the longest", start.get().copy(2, 0, 2, 0, 24), 24);
        TWINS.changesNothing("one too far in the same", INDEX, start, x -> x.copy(2, 0, 2, 1, 24));
        TWINS.changesNothing("one too far in the same", INDEX, start, x -> x.copy(2, 1, 2, 0, 24));
        TWINS.changesNothing("no items of no item", 0, start, x -> x.copy(1, 0, 1, 0, 0));
        TWINS.changesNothing("an item of no item", INDEX, start, x -> x.copy(1, 0, 1, 0, 1));
        TWINS.changesNothing("behind no item", INDEX, start, x -> x.copy(1, 1, 1, 0, 0));
    }
}

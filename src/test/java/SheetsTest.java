/** Promises 28 to 33: the ledger, the film, sheets. */
public final class SheetsTest {
    private static final Due DUE = new Due("SheetsTest");
    private static final int BAD = -1, NULL = -11, CAST = -12, INDEX = -13, SIZE = -14;
    private static final int LOW = Integer.MIN_VALUE, HIGH = Integer.MAX_VALUE;

    public static void main(String[] args) {
        ledger();
        ledgerLanes();
        ledgerRefused();
        film();
        filmRefused();
        sheet();
        drop();
        item();
        copy();
        copyRefused();
        DUE.end();
    }

    private static void row(FurrowNames x, int sheet, int lane, long... items) {
        x.sheet(sheet, lane, items.length);
        for (int i = 0; i < items.length; i++) {
            x.item(sheet, lane, i, items[i]);
        }
    }

    /** Whether a sheet of the heirs' parish holds just these items: the ledger is all that reads one. */
    private static void holds(String what, FurrowNames heirs, int sheet, int lane, int... items) {
        for (int i = 0; i < items.length; i++) {
            DUE.is(what + ", item " + i, heirs.ledger(items[i], sheet, lane, i, 1) & 8, 8);
        }
    }

    /** Heirs who each take the name of their own number. */
    private static FurrowNames heirs() {
        return Due.parish("0;h91,h91,h91,h91,h91,h91;5-0,5-0,5-0,5-0,5-0,5-0");
    }

    private static void ledger() {
        DUE.promise(28, "ledger");
        // Man 1 is second. Names: 12-4, 10-0, 9-3; man 0 takes the second (10).
        FurrowNames x = Due.parish("0;p91,p91;12-4,10-0,9-3");
        row(x, 0, 2, 0);
        // Plain 8 and 6, proud 20 and 15, poor 4 and 3, heir as proud, a drinker as poor.
        DUE.is("all kinds", x.ledger(1, 0, 2, 0, 1), 31);
        row(x, 0, 2, 1);
        DUE.is("no kind", x.ledger(1, 0, 2, 0, 1), 0);
        DUE.is("of man 0: plain 8, 10, 6, poor 4, 10, 3", x.ledger(0, 0, 2, 0, 1), 5);
        row(x, 0, 2, 0);
        DUE.is("of man 0: proud 20, 20, heir 29, 20; behind a drinker's", x.ledger(0, 0, 2, 0, 1), 26);
        DUE.is("nothing is changed", x.of(0, 0), 0);
        DUE.is("nothing is changed", x.count(2), 0);
        // Nothing: only a drinker is behind the others, in March 0 by 5, in March 1 by 3 less 1 of hand.
        FurrowNames y = Due.parish("0;p81,p51;9-0");
        row(y, 1, 0, -1, -1, -1);
        DUE.is("nothing", y.ledger(0, 1, 0, 0, 1), 16);
        DUE.is("nothing twice", y.ledger(0, 1, 0, 0, 2), 0);
        DUE.is("nothing thrice, of man 1", y.ledger(1, 1, 0, 0, 3), 31);
        row(y, 1, 0, 0, -1, 0, -1, 0);
        DUE.is("nothing, then the name, then nothing", y.ledger(0, 1, 0, 1, 3), 16);
        DUE.is("the name, then nothing", y.ledger(0, 1, 0, 0, 2), 0);
        row(y, 1, 0, -4, -2, 1, 6);
        for (int i = 0; i < 4; i++) {
            DUE.is("what nobody is called", y.ledger(0, 1, 0, i, 1), 0);
        }
    }

    private static void ledgerLanes() {
        DUE.promise(28, "ledger: lanes");
        FurrowNames x = heirs();
        for (int lane = 0; lane < 4; lane++) {
            row(x, lane, lane, 3, 3, 3, 3, 3, 3, 3, 3);
            DUE.is("eight of lane " + lane, x.ledger(3, lane, lane, 0, 8) & 8, 8);
            DUE.is("of another", x.ledger(2, lane, lane, 0, 8) & 8, 0);
        }
        row(x, 3, 3, 3L + (1L << 32), -1L << 32, 3L - (1L << 40));
        for (int i = 0; i < 3; i++) {
            DUE.is("a long is no int", x.ledger(3, 3, 3, i, 1), 0);
            DUE.is("a long is no int", x.ledger(0, 3, 3, i, 1), 0);
        }
    }

    private static void ledgerRefused() {
        DUE.promise(28, "ledger: refused");
        FurrowNames x = heirs();
        x.sheet(0, 1, 10);
        for (int bad : new int[] {-1, 6, LOW, HIGH}) {
            DUE.is("man " + bad, x.ledger(bad, 0, 1, 0, 1), BAD);
        }
        for (int bad : new int[] {-1, 4, LOW, HIGH}) {
            DUE.is("sheet " + bad, x.ledger(0, bad, 1, 0, 1), BAD);
            DUE.is("lane " + bad, x.ledger(0, 0, bad, 0, 1), BAD);
            DUE.is("lane " + bad + " of nothing", x.ledger(0, 1, bad, 0, 1), BAD);
        }
        for (int bad : new int[] {0, -1, 9, LOW, HIGH}) {
            DUE.is("n " + bad, x.ledger(0, 0, 1, 0, bad), BAD);
            DUE.is("n " + bad + " of nothing", x.ledger(0, 1, 2, -1, bad), BAD);
        }
        DUE.is("nothing", x.ledger(0, 1, 1, -1, 1), NULL);
        DUE.is("another lane", x.ledger(0, 0, 2, -1, 1), CAST);
        for (int bad : new int[] {-1, 3, 10, LOW, HIGH}) {
            DUE.is("from " + bad, x.ledger(0, 0, 1, bad, 8), INDEX);
        }
        DUE.is("from 2", x.ledger(0, 0, 1, 2, 8) & 8, 8);
        DUE.is("from 9", x.ledger(0, 0, 1, 9, 1) & 8, 8);
        DUE.is("from 10", x.ledger(0, 0, 1, 10, 1), INDEX);
    }

    private static void film() {
        DUE.promise(29, "film");
        // The drinker is called nothing in March 0, by hand 9 then ahead of the other in odd Marches.
        FurrowNames x = Due.parish("0;d81,p51;9-0");
        for (int lane = 0; lane < 4; lane++) {
            x.sheet(lane, lane, 24);
            DUE.is("film", x.film(0, 24, lane, lane, 0), 24);
            DUE.is("the drinker's kind", x.ledger(0, lane, lane, 0, 8) & 16, 16);
            DUE.is("film of 2 to the end", x.film(1, 2, lane, lane, 22), 2);
        }
        DUE.is("nothing is changed", x.count(2), 0);
        FurrowNames y = heirs();
        y.sheet(0, 2, 6);
        for (int m = 0; m < 6; m++) {
            DUE.is("film of one", y.film(m, 1, 0, 2, m), 1);
        }
        holds("the film", y, 0, 2, 0, 1, 2, 3, 4, 5);
        FurrowNames z = Due.parish("0;p91,p01;9-0");
        z.sheet(0, 3, 5);
        DUE.is("film of nothing", z.film(1, 3, 0, 3, 1), 3);
        DUE.is("-1 each", z.ledger(1, 0, 3, 1, 3), 31);
        DUE.is("0 ahead of it", z.ledger(0, 0, 3, 0, 1), 31);
        DUE.is("0 behind it", z.ledger(0, 0, 3, 4, 1), 31);
    }

    private static void filmRefused() {
        DUE.promise(29, "film: refused");
        FurrowNames x = heirs();
        x.sheet(0, 1, 24);
        x.sheet(1, 0, 0);
        for (int bad : new int[] {-1, 6, LOW, HIGH}) {
            DUE.is("man " + bad, x.film(bad, 1, 0, 1, 0), BAD);
        }
        for (int bad : new int[] {0, -1, 25, LOW, HIGH}) {
            DUE.is("n " + bad, x.film(0, bad, 0, 1, 0), BAD);
        }
        for (int bad : new int[] {-1, 4, LOW, HIGH}) {
            DUE.is("sheet " + bad, x.film(0, 1, bad, 1, 0), BAD);
            DUE.is("lane " + bad, x.film(0, 1, 0, bad, 0), BAD);
        }
        DUE.is("nothing", x.film(0, 1, 2, 0, -1), NULL);
        DUE.is("another lane", x.film(0, 1, 0, 0, -1), CAST);
        for (int bad : new int[] {-1, 1, 24, LOW, HIGH}) {
            DUE.is("from " + bad, x.film(5, 24, 0, 1, bad), INDEX);
        }
        DUE.is("a row of no items", x.film(5, 1, 1, 0, 0), INDEX);
        for (int i = 0; i < 24; i++) {
            DUE.is("what is refused changes nothing", x.ledger(0, 0, 1, i, 1) & 8, 8);
        }
    }

    private static void sheet() {
        DUE.promise(30, "sheet");
        FurrowNames x = heirs();
        for (int bad : new int[] {-1, 4, LOW, HIGH}) {
            DUE.is("sheet " + bad, x.sheet(bad, 0, 1), BAD);
            DUE.is("sheet " + bad + " of SIZE", x.sheet(bad, 0, -1), BAD);
            DUE.is("lane " + bad, x.sheet(0, bad, 1), BAD);
            DUE.is("lane " + bad + " of SIZE", x.sheet(0, bad, -1), BAD);
        }
        DUE.is("25", x.sheet(0, 0, 25), BAD);
        DUE.is("HIGH", x.sheet(0, 0, HIGH), BAD);
        DUE.is("-1", x.sheet(0, 0, -1), SIZE);
        DUE.is("LOW", x.sheet(0, 0, LOW), SIZE);
        DUE.is("nothing was made", x.drop(0), NULL);
        for (int n = 0; n <= 24; n++) {
            DUE.is("sheet(3, 1, " + n + ")", x.sheet(3, 1, n), n);
            DUE.is("item at the end", x.item(3, 1, n, 7), INDEX);
            DUE.is("the last item", x.item(3, 1, n - 1, 7), n == 0 ? INDEX : 1);
        }
        DUE.is("a refused one leaves the old one", x.sheet(3, 0, -1), SIZE);
        DUE.is("a refused one leaves the old one", x.sheet(3, 0, 25), BAD);
        DUE.is("drop(3)", x.drop(3), 24);
        row(x, 2, 2, 5, 5, 5);
        DUE.is("a new row in its place", x.sheet(2, 2, 24), 24);
        for (int i = 0; i < 24; i++) {
            DUE.is("all 0", x.ledger(0, 2, 2, i, 1) & 8, 8);
        }
        DUE.is("of another lane", x.sheet(2, 0, 2), 2);
        DUE.is("it is so", x.item(2, 2, 0, 1), CAST);
    }

    private static void drop() {
        DUE.promise(31, "drop");
        FurrowNames x = new FurrowNames();
        for (int bad : new int[] {-1, 4, LOW, HIGH}) {
            DUE.is("drop(" + bad + ")", x.drop(bad), BAD);
        }
        x.sheet(1, 3, 0);
        x.sheet(2, 3, 24);
        DUE.is("drop(1)", x.drop(1), 0);
        DUE.is("drop(1)", x.drop(1), NULL);
        DUE.is("drop(2)", x.drop(2), 24);
        DUE.is("drop(2)", x.drop(2), NULL);
        DUE.is("it holds nothing", x.item(2, 3, 0, 1), NULL);
        DUE.is("it holds nothing", x.copy(2, 0, 2, 0, 0), NULL);
        DUE.is("drop(3)", x.drop(3), NULL);
        DUE.is("again", x.sheet(2, 0, 3), 3);
        DUE.is("drop(2)", x.drop(2), 3);
    }

    private static void item() {
        DUE.promise(32, "item");
        FurrowNames x = heirs();
        long[] bits = {1L << 8, 1L << 16, 1L << 32, 0L};
        for (int lane = 0; lane < 4; lane++) {
            DUE.is("nothing", x.item(lane, lane, -1, 1), NULL);
            x.sheet(lane, lane, 2);
            DUE.is("item", x.item(lane, lane, 1, 4L - bits[lane]), 1);
            DUE.is("its lowest bits", x.ledger(4, lane, lane, 1, 1) & 8, 8);
            DUE.is("the other item", x.ledger(0, lane, lane, 0, 1) & 8, 8);
            DUE.is("item", x.item(lane, lane, 0, 5L + 3 * bits[lane]), 1);
            DUE.is("its lowest bits", x.ledger(5, lane, lane, 0, 1) & 8, 8);
            DUE.is("another lane", x.item(lane, 3 - lane, -1, 1), CAST);
            for (int bad : new int[] {-1, 2, 24, LOW, HIGH}) {
                DUE.is("item " + bad, x.item(lane, lane, bad, 1), INDEX);
            }
        }
        for (int bad : new int[] {-1, 4, LOW, HIGH}) {
            DUE.is("sheet " + bad, x.item(bad, 0, 0, 1), BAD);
            DUE.is("lane " + bad, x.item(0, bad, 0, 1), BAD);
        }
        x.drop(1);
        DUE.is("a bad lane of nothing", x.item(1, 4, 0, 1), BAD);
        // Of a man who is called nothing: all bits are -1.
        FurrowNames y = Due.parish("0;p91,p01;9-0");
        long[] ones = {255L, 65535L, 4294967295L, -1L};
        for (int lane = 0; lane < 4; lane++) {
            row(y, lane, lane, ones[lane]);
            DUE.is("-1", y.ledger(1, lane, lane, 0, 1) & 1, 1);
        }
        row(y, 3, 3, 4294967295L);
        DUE.is("not -1", y.ledger(1, 3, 3, 0, 1), 0);
    }

    private static void copy() {
        DUE.promise(33, "copy");
        FurrowNames x = heirs();
        for (int lane = 0; lane < 4; lane++) {
            row(x, 0, lane, 0, 1, 2, 3, 4, 5);
            row(x, 1, lane, 5, 5, 5);
            DUE.is("copy", x.copy(0, 2, 1, 1, 2), 2);
            holds("the other", x, 1, lane, 5, 2, 3);
            DUE.is("ahead in the same", x.copy(0, 0, 0, 2, 4), 4);
            holds("as if taken ahead", x, 0, lane, 0, 1, 0, 1, 2, 3);
            DUE.is("back in the same", x.copy(0, 1, 0, 0, 5), 5);
            holds("as if taken ahead", x, 0, lane, 1, 0, 1, 2, 3, 3);
            DUE.is("none", x.copy(0, 6, 1, 3, 0), 0);
            DUE.is("all", x.copy(0, 0, 0, 0, 6), 6);
            holds("the same", x, 0, lane, 1, 0, 1, 2, 3, 3);
        }
    }

    private static void copyRefused() {
        DUE.promise(33, "copy: refused");
        FurrowNames x = heirs();
        row(x, 0, 1, 0, 1, 2, 3, 4, 5);
        row(x, 1, 1, 5, 5, 5);
        row(x, 2, 2, 1);
        for (int bad : new int[] {-1, 4, LOW, HIGH}) {
            DUE.is("from " + bad, x.copy(bad, 0, 3, 0, 1), BAD);
            DUE.is("to " + bad, x.copy(3, 0, bad, 0, 1), BAD);
        }
        DUE.is("from nothing", x.copy(3, -1, 0, 0, 1), NULL);
        DUE.is("to nothing", x.copy(0, 0, 3, -1, 1), NULL);
        DUE.is("unlike lanes", x.copy(0, -1, 2, -1, -1), CAST);
        DUE.is("unlike lanes", x.copy(2, 0, 0, 0, 0), CAST);
        int[][] bad = {{-1, 0, 1}, {0, -1, 1}, {0, 0, -1}, {0, 0, 4}, {5, 0, 2}, {0, 2, 2}, {7, 0, 0}, {0, 4, 0},
            {LOW, 0, 1}, {HIGH, 0, 1}, {0, LOW, 1}, {0, HIGH, 1}, {0, 0, LOW}, {0, 0, HIGH}, {HIGH, 0, HIGH}, {2, 2, HIGH},
            {LOW, LOW, LOW}, {0, 0, 7}, {-1, 0, 0}, {0, -1, 0}};
        for (int[] b : bad) {
            DUE.is("copy from " + b[0] + " to " + b[1] + ", " + b[2], x.copy(0, b[0], 1, b[1], b[2]), INDEX);
        }
        DUE.is("the same, too far", x.copy(0, 3, 0, 0, 4), INDEX);
        DUE.is("the same, too far", x.copy(0, 0, 0, 3, 4), INDEX);
        holds("what is refused changes nothing", x, 1, 1, 5, 5, 5);
        holds("what is refused changes nothing", x, 0, 1, 0, 1, 2, 3, 4, 5);
    }
}

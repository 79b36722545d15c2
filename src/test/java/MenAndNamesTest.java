/** Promises 1 to 10: men, names, the line, texts. */
public final class MenAndNamesTest {
    private static final Due DUE = new Due("MenAndNamesTest");
    private static final int BAD = -1, FULL = -3, NONE = -4, NULL = -11;
    private static final int LOW = Integer.MIN_VALUE, HIGH = Integer.MAX_VALUE;

    public static void main(String[] args) {
        newObject();
        man();
        name();
        of();
        line();
        named();
        values();
        stones();
        type();
        parish();
        faults();
        blanks();
        longTexts();
        count();
        DUE.end();
    }

    private static void newObject() {
        DUE.promise(1, "a new object");
        FurrowNames x = new FurrowNames();
        for (int what = 0; what <= 8; what++) {
            DUE.is("count(" + what + ")", x.count(what), what == 3 ? 6 : 0);
        }
        DUE.is("undo()", x.undo(), NONE);
        DUE.is("restore()", x.restore(), NONE);
        DUE.is("seed(7)", x.seed(7), 1);
        for (int s = 0; s < 4; s++) {
            DUE.is("drop(" + s + ")", x.drop(s), NULL);
        }
        DUE.is("type(32)", x.type(32), 1);
        DUE.is("of(0, 0)", x.of(0, 0), BAD);
        DUE.is("named(0, 0)", x.named(0, 0), BAD);
    }

    private static void man() {
        DUE.promise(2, "man");
        FurrowNames x = new FurrowNames();
        int[][] bad = {{-1, 5, 2}, {5, 5, 2}, {0, -1, 2}, {0, 10, 2}, {0, 5, 0}, {0, 5, 5},
            {LOW, 5, 2}, {HIGH, 5, 2}, {0, LOW, 2}, {0, HIGH, 2}, {0, 5, LOW}, {0, 5, HIGH}};
        for (int[] b : bad) {
            DUE.is("a bad man", x.man(b[0], b[1], b[2]), BAD);
        }
        DUE.is("count(0)", x.count(0), 0);
        x.name(9, 1);
        x.marches(3);
        DUE.is("what may be undone", x.count(8), 3);
        DUE.is("man(9, 9, 9)", x.man(9, 9, 9), BAD);
        DUE.is("still", x.count(8), 3);
        for (int m = 0; m < 6; m++) {
            DUE.is("man(" + m + ")", x.man(m % 5, m == 5 ? 0 : 9 - m, m % 4 + 1), m);
        }
        DUE.is("a new man leaves nothing to be undone", x.count(8), 0);
        for (int m = 0; m < 6; m++) {
            DUE.is("kind of " + m, x.of(m, 0), m % 5);
            DUE.is("hand of " + m, x.of(m, 1), m == 5 ? 0 : 9 - m);
            DUE.is("oxen of " + m, x.of(m, 2), m % 4 + 1);
            DUE.is("credit of " + m, x.of(m, 3), 10000);
            DUE.is("called " + m, x.of(m, 4), NONE);
        }
        x.marches(2);
        DUE.is("the seventh", x.man(0, 5, 2), FULL);
        DUE.is("a bad seventh", x.man(0, 5, 0), BAD);
        DUE.is("a refused man changes nothing", x.count(8), 2);
        DUE.is("count(0)", x.count(0), 6);
    }

    private static void name() {
        DUE.promise(3, "name");
        FurrowNames x = new FurrowNames();
        int[][] bad = {{-1, 0}, {21, 0}, {0, -1}, {0, 21}, {LOW, 0}, {HIGH, 0}, {0, LOW}, {0, HIGH}};
        for (int[] b : bad) {
            DUE.is("a bad name", x.name(b[0], b[1]), BAD);
        }
        DUE.is("count(1)", x.count(1), 0);
        x.man(0, 3, 1);
        x.train(0);
        DUE.is("what may be undone", x.count(8), 1);
        for (int n = 0; n < 6; n++) {
            DUE.is("name " + n, x.name(4 * n, 20 - 4 * n), n);
        }
        DUE.is("a new name leaves nothing to be undone", x.count(8), 0);
        for (int n = 0; n < 6; n++) {
            DUE.is("worth of " + n, x.named(n, 0), 4 * n);
            DUE.is("debt of " + n, x.named(n, 1), 20 - 4 * n);
        }
        x.train(0);
        DUE.is("the seventh", x.name(1, 1), FULL);
        DUE.is("a bad seventh", x.name(1, 21), BAD);
        DUE.is("a refused name changes nothing", x.count(8), 1);
    }

    private static void of() {
        DUE.promise(4, "of");
        // All of like hand and oxen: 10 - 4 + 7 / 3 is 8.
        FurrowNames x = Due.parish("7;p43,r43,o43,h43,d43;1-0");
        int[] off = {8, 8, 8, 8, 13};
        for (int m = 0; m < 5; m++) {
            DUE.is("kind of " + m, x.of(m, 0), m);
            DUE.is("off of " + m + " in March 0", x.of(m, 5), off[m]);
            DUE.is("place of " + m, x.of(m, 6), m);
        }
        x.marches(1);
        DUE.is("a drinker's off in March 1", x.of(4, 5), 10);
        DUE.is("his hand, who had no name", x.of(4, 1), 5);
        DUE.is("who had one", x.of(0, 1), 4);
        DUE.is("called", x.of(0, 4), 0);
        DUE.is("not called", x.of(1, 4), NONE);
        DUE.is("credit", x.of(0, 3), 10001);
        x.marches(1);
        DUE.is("a drinker's off in March 2", x.of(4, 5), 11);
        x.stones(20);
        // Without a name in March 1, as others' hands were better then, his is 5 now.
        DUE.is("off by 20 stones", x.of(0, 5), 11);
        x.stones(0);
        DUE.is("off by no stones", x.of(0, 5), 5);
        for (int bad : new int[] {-1, 5, 6, LOW, HIGH}) {
            DUE.is("of(" + bad + ", 0)", x.of(bad, 0), BAD);
        }
        for (int bad : new int[] {-1, 7, LOW, HIGH}) {
            DUE.is("of(0, " + bad + ")", x.of(0, bad), BAD);
        }
        FurrowNames y = Due.parish("6;o01;1-20");
        y.marches(1);
        DUE.is("credit below 0", y.of(0, 3), 10000 + 1 - 40);
    }

    private static void line() {
        DUE.promise(4, "of: the line");
        // Off: 10-2+6, 10-8+6, 10-5+6, 10-8+6.
        FurrowNames x = Due.parish("6;p21,p81,p51,p81;1-0");
        int[] place = {3, 0, 2, 1};
        for (int m = 0; m < 4; m++) {
            DUE.is("place of " + m, x.of(m, 6), place[m]);
        }
        // A drinker of a better hand is behind in March 0 (7 and 5), ahead in March 1.
        FurrowNames y = Due.parish("0;p51,d91;1-0,1-0");
        DUE.is("place of the drinker", y.of(1, 6), 1);
        y.marches(1);
        DUE.is("off of the drinker", y.of(1, 5), 4);
        DUE.is("place of the drinker", y.of(1, 6), 0);
        DUE.is("place of the other", y.of(0, 6), 1);
    }

    private static void named() {
        DUE.promise(5, "named");
        FurrowNames x = Due.parish("6;p21,p81;3-7,9-2,20-0");
        DUE.is("worth", x.named(0, 0), 3);
        DUE.is("debt", x.named(0, 1), 7);
        DUE.is("nobody", x.named(2, 2), NONE);
        x.marches(1);
        DUE.is("who takes the best", x.named(2, 2), 1);
        DUE.is("who takes the second", x.named(1, 2), 0);
        DUE.is("nobody the third", x.named(0, 2), NONE);
        DUE.is("worth of the third wears", x.named(0, 0), 2);
        DUE.is("debt of the third stays", x.named(0, 1), 7);
        DUE.is("debt of a taken one", x.named(1, 1), 1);
        DUE.is("debt is 0 at least", x.named(2, 1), 0);
        DUE.is("worth of a taken one", x.named(2, 0), 20);
        for (int bad : new int[] {-1, 3, 6, LOW, HIGH}) {
            DUE.is("named(" + bad + ", 0)", x.named(bad, 0), BAD);
            DUE.is("named(0, bad)", x.named(0, bad), BAD);
        }
        x.marches(5);
        DUE.is("worth is 0 at least", x.named(0, 0), 0);
    }

    private static void values() {
        DUE.promise(6, "values");
        FurrowNames x = Due.parish("7;p43,r43,o43,h43,d43,h11;13-4,0-20,20-0,13-4,0-0,1-20");
        int[][] due = {
            {109, 80, 120, 109, 100, 81},
            {122, 80, 140, 122, 100, 82},
            {105, 60, 120, 105, 100, 61},
            {122, 80, 140, 131, 100, 82},
            {105, 60, 120, 105, 100, 61},
            {122, 80, 140, 122, 100, 91}};
        for (int m = 0; m < 6; m++) {
            for (int n = 0; n < 6; n++) {
                DUE.is("values(" + m + ", " + n + ")", x.values(m, n), due[m][n]);
            }
        }
        FurrowNames y = Due.parish("7;p43,r43;13-4,0-20,3-3");
        for (int bad : new int[] {-4, -1, 3, 6, LOW, HIGH}) {
            DUE.is("values(" + bad + ", 0)", y.values(bad, 0), BAD);
            DUE.is("values(0, " + bad + ")", y.values(0, bad), BAD);
        }
        DUE.is("values(2, 0)", y.values(2, 0), BAD);
        DUE.is("values(1, 2)", y.values(1, 2), 103);
    }

    private static void stones() {
        DUE.promise(7, "stones");
        FurrowNames x = new FurrowNames();
        DUE.is("stones(20)", x.stones(20), 6);
        DUE.is("stones(0)", x.stones(0), 20);
        for (int bad : new int[] {-1, 21, LOW, HIGH}) {
            DUE.is("stones(" + bad + ")", x.stones(bad), BAD);
        }
        DUE.is("count(3)", x.count(3), 0);
        x.man(0, 5, 2);
        x.marches(1);
        x.stones(9);
        DUE.is("stones are nothing to be undone", x.count(8), 1);
        DUE.is("undo()", x.undo(), 0);
        DUE.is("stones stay when a March is undone", x.count(3), 9);
    }

    private static void type() {
        DUE.promise(8, "type");
        FurrowNames x = new FurrowNames();
        for (int bad : new int[] {31, 127, -1, 0, 10, 255, 32 + 65536, LOW, HIGH}) {
            DUE.is("type(" + bad + ")", x.type(bad), BAD);
        }
        for (int i = 1; i <= 80; i++) {
            DUE.is("letter " + i, x.type(i % 2 == 0 ? 32 : 126), i);
        }
        DUE.is("letter 81", x.type(50), FULL);
        DUE.is("a bad letter 81", x.type(31), BAD);
        DUE.is("parish()", x.parish(), -20);
        DUE.is("the tape is empty then", x.type(50), 1);
        DUE.is("letter 2", x.type(48), 2);
        DUE.is("20 and the end", x.parish(), -22);
    }

    private static void parish() {
        DUE.promise(9, "parish");
        FurrowNames x = Due.parish("20;p01,r94,o52,h13,d34,p52;0-20,20-0,07-9,1-10,00-00,3-3");
        int[][] men = {{0, 0, 1}, {1, 9, 4}, {2, 5, 2}, {3, 1, 3}, {4, 3, 4}, {0, 5, 2}};
        int[][] names = {{0, 20}, {20, 0}, {7, 9}, {1, 10}, {0, 0}, {3, 3}};
        for (int i = 0; i < 6; i++) {
            for (int what = 0; what < 3; what++) {
                DUE.is("of(" + i + ", " + what + ")", x.of(i, what), men[i][what]);
            }
            DUE.is("worth of " + i, x.named(i, 0), names[i][0]);
            DUE.is("debt of " + i, x.named(i, 1), names[i][1]);
        }
        DUE.is("stones", x.count(3), 20);
        x.seed(99);
        x.marches(3);
        x.train(0);
        DUE.is("foretold, which leaves no trace", x.ahead(0, 60, 0) >= 0 ? 1 : 0, 1);
        DUE.is("a fault leaves all else", Due.read(x, "3;p52;3"), -27);
        DUE.is("men stay", x.count(0), 6);
        DUE.is("the March stays", x.count(2), 3);
        DUE.is("stones stay", x.count(3), 20);
        DUE.is("what may be undone stays", x.count(8), 4);
        DUE.is("another parish", Due.read(x, "3;d52,h21;3-1"), 2);
        DUE.is("men", x.count(0), 2);
        DUE.is("names", x.count(1), 1);
        DUE.is("March", x.count(2), 0);
        DUE.is("stones", x.count(3), 3);
        DUE.is("who is called", x.count(4), 0);
        DUE.is("nothing to be undone", x.count(8), 0);
        DUE.is("undo()", x.undo(), NONE);
        DUE.is("the draw stays", x.seed(1), 99);
        DUE.is("no credit", x.of(0, 3), 10000);
        DUE.is("not called", x.of(0, 4), NONE);
        DUE.is("the tape is empty", x.parish(), -20);
        DUE.is("no man 2", x.of(2, 0), BAD);
        DUE.is("a man more", x.man(1, 2, 3), 2);
        DUE.is("not called either", x.of(2, 4), NONE);
        DUE.is("credit of his own", x.of(2, 3), 10000);
    }

    private static void fault(String text, int place) {
        FurrowNames x = new FurrowNames();
        DUE.is("\"" + text + "\"", Due.read(x, text), -20 - place);
        DUE.is("\"" + text + "\": men", x.count(0), 0);
    }

    private static void faults() {
        DUE.promise(9, "parish: faults");
        fault("", 0);
        fault(";", 0);
        fault("-1", 0);
        fault("21;p52;1-1", 0);
        fault("99", 0);
        fault("123;p52;1-1", 2);
        fault("200;p52;1-1", 2);
        fault("210;p52;1-1", 0);
        fault("7", 1);
        fault("07:", 2);
        fault("7,p52;1-1", 1);
        fault("7;;", 2);
        fault("7;P52;1-1", 2);
        fault("7;x", 2);
        fault("7;p", 3);
        fault("7;pp", 3);
        fault("7;p5", 4);
        fault("7;p50;1-1", 4);
        fault("7;p55;1-1", 4);
        fault("7;p523;1-1", 5);
        fault("7;p52", 5);
        fault("7;p52-", 5);
        fault("7;p52,", 6);
        fault("7;p52,;1-1", 6);
        fault("7;p52,5", 6);
        fault("7;p52;", 6);
        fault("7;p52;;", 6);
        fault("7;p52;p", 6);
        fault("7;p52;21-1", 6);
        fault("7;p52;1", 7);
        fault("7;p52;1,", 7);
        fault("7;p52;111-1", 8);
        fault("7;p52;11-", 9);
        fault("7;p52;11-,", 9);
        fault("7;p52;11--1", 9);
        fault("7;p52;11-21", 9);
        fault("7;p52;11-99,21-1", 9);
        fault("7;p52;11-201", 11);
        fault("7;p52;1-1,", 10);
        fault("7;p52;1-1;", 9);
        fault("7;p52;1-1,,", 10);
        fault("7;p52;1-1,1", 11);
        fault("7;p52;1-1,p", 10);
        fault("7;p52;1-1x", 9);
        fault("7;p52,p52,p52,p52,p52,p52,p52;1-1", 25);
        fault("7;p52,p52,p52,p52,p52,p52,", 25);
        fault("7;p52;1-1,1-1,1-1,1-1,1-1,1-1,1-1", 29);
        fault("7;p52;1-1,1-1,1-1,1-1,1-1,1-1,", 29);
    }

    private static void blanks() {
        DUE.promise(9, "parish: blanks");
        FurrowNames x = new FurrowNames();
        DUE.is("with blanks", Due.read(x, "  1 ; p 5 2 , r  4 3;  12 - 4 ,8-15   "), 2);
        DUE.is("stones", x.count(3), 1);
        DUE.is("oxen", x.of(0, 2), 2);
        DUE.is("hand", x.of(1, 1), 4);
        DUE.is("worths", x.count(5), 20);
        DUE.is("debts", x.count(6), 19);
        fault("   ", 3);
        fault("1 2;p52;1-1", 2);
        fault("  21;p52;1-1", 2);
        fault("1  x", 3);
        fault("1   ", 4);
        fault("1;p5 0;1-1", 5);
        fault("1;p52;1 1-1", 8);
        fault("1;p52;1-1 1", 10);
        fault("1;p52;1-1 1,1-1", 10);
        fault("1;p52;1-  21", 10);
        fault("1;p52;1-1,  ", 12);
        fault("1;p52 , ", 8);
    }

    private static void longTexts() {
        DUE.promise(9, "parish: 80 letters");
        String text = "20;p52,p52,p52,p52,p52,p52;20-20,20-20,20-20,20-20,20-20,20-19";
        String blanks = " ".repeat(80 - text.length());
        FurrowNames x = new FurrowNames();
        DUE.is("80 letters", Due.read(x, text + blanks), 6);
        DUE.is("the last debt", x.named(5, 1), 19);
        DUE.is("80 letters", Due.read(x, blanks + text), 6);
        DUE.is("what is behind 80 letters is lost", Due.read(x, blanks + text + "5"), 6);
        DUE.is("the last debt", x.named(5, 1), 19);
        DUE.is("80 blanks", Due.read(x, " ".repeat(80)), -100);
        DUE.is("cut", Due.read(x, blanks + "  " + text), -100);
        DUE.is("a digit cut", Due.read(x, blanks + " " + text), 6);
        DUE.is("the last debt", x.named(5, 1), 1);
        DUE.is("a longer text", Due.read(x, "1;p52;1-15"), 1);
        DUE.is("nothing of it comes to a shorter one", Due.read(x, "1;p52;1-1"), 1);
        DUE.is("debt", x.named(0, 1), 1);
        DUE.is("nor to one of one letter", Due.read(x, "1"), -21);
    }

    private static void count() {
        DUE.promise(10, "count");
        // Off: 14, 8, 11: men 1 and 2 have the names.
        FurrowNames x = Due.parish("6;p21,r81,o51;10-3,4-8");
        int[] first = {3, 2, 0, 6, 0, 14, 11, 6, 0};
        for (int what = 0; what < 9; what++) {
            DUE.is("count(" + what + ")", x.count(what), first[what]);
        }
        DUE.is("worths of six", Due.parish("0;p11;1-20,2-10,3-5,4-2,5-1,6-0").count(5), 21);
        DUE.is("debts of six", Due.parish("0;p11;1-20,2-10,3-5,4-2,5-1,6-0").count(6), 38);
        FurrowNames fewer = Due.parish("0;p11;1-20,2-10,3-5,4-2,5-1,6-0");
        Due.read(fewer, "0;p11;1-20,2-10,3-5");
        DUE.is("worths of three then", fewer.count(5), 6);
        DUE.is("debts of three then", fewer.count(6), 35);
        x.marches(1);
        x.train(0);
        x.hire(0, 4);
        // Off: 7, 8, 11.
        int[] then = {3, 2, 1, 6, 6, 14, 9, 3, 3};
        for (int what = 0; what < 9; what++) {
            DUE.is("then count(" + what + ")", x.count(what), then[what]);
        }
        x.stones(20);
        x.hire(2, 4);
        // Off: 11, 22, 10.
        DUE.is("who would be called by 20 stones", x.count(7), 5);
        DUE.is("who is called is as it was", x.count(4), 6);
        for (int bad : new int[] {-1, 9, LOW, HIGH}) {
            DUE.is("count(" + bad + ")", x.count(bad), BAD);
        }
    }
}

import java.math.BigInteger;

/** The sentences of the document's "Terms", one by one, where each comes to its end: too few, too many, alike, none. */
public final class EdgesTest {
    private static final Due DUE = new Due("EdgesTest");
    private static final int BAD = -1, NOT = -2, FULL = -3, NONE = -4, NULL = -11, INDEX = -13;
    private static final int LOW = Integer.MIN_VALUE, HIGH = Integer.MAX_VALUE;

    public static void main(String[] args) {
        emptyParish();
        menWithoutNames();
        namesWithoutMen();
        emptySheet();
        manyMen();
        manyNames();
        creditBelowZero();
        off();
        divided();
        drinkers();
        values();
        heirs();
        line();
        choice();
        choiceBelowZero();
        handAtMost();
        debtAtLeast();
        worthAtLeast();
        aMarch();
        foretold();
        train();
        field();
        parting();
        change();
        luck();
        luckOfSix();
        top();
        ledger();
        lowestBits();
        newRow();
        takenAhead();
        filmOfTwentyFour();
        eightKnown();
        ninthLost();
        eachDeedUndone();
        nothingToBeUndone();
        toldSince();
        drawUndone();
        undoneInPart();
        drawWraps();
        stonesOfADraw();
        longDrift();
        imageHasAll();
        imageHasNot();
        DUE.end();
    }

    private static void all(String what, FurrowNames x, int call, int... due) {
        for (int i = 0; i < due.length; i++) {
            DUE.is(what + " " + i, x.of(i, call), due[i]);
        }
    }

    // ---- empty ones

    private static void emptyParish() {
        DUE.terms("A parish, nobody");
        FurrowNames x = new FurrowNames();
        DUE.is("stones are 6 at first", x.count(3), 6);
        DUE.is("it is March 0 at first", x.count(2), 0);
        DUE.is("the draw is 1 at first", x.seed(1), 1);
        DUE.is("undo()", x.undo(), NONE);
        DUE.is("restore()", x.restore(), NONE);
        DUE.is("parish()", x.parish(), -20);
        DUE.is("marches(1)", x.marches(1), 0);
        DUE.is("drift(1): nobody is called nothing", x.drift(1), 0);
        DUE.is("March", x.count(2), 2);
        DUE.is("what may be undone", x.count(8), 2);
        DUE.is("who is called", x.count(4), 0);
        DUE.is("who would be", x.count(7), 0);
        DUE.is("parting(NONE)", x.parting(NONE), 0);
        DUE.is("change(-1)", x.change(-1), 0);
        DUE.is("change(0)", x.change(0), NONE);
        int[] bad = {x.of(0, 0), x.named(0, 0), x.values(0, 0), x.train(0), x.hire(0, 1), x.swap(0, 1), x.ahead(0, 0, 0),
            x.nameAhead(0, 0, 0), x.needs(0, 0), x.field(0), x.parting(0), x.luck(0, NONE, 0), x.top(0, 1), x.ledger(0, 0, 0, 0, 1),
            x.film(0, 1, 0, 0, 0)};
        for (int i = 0; i < bad.length; i++) {
            DUE.is("of nobody, " + i, bad[i], BAD);
        }
        DUE.is("undo()", x.undo(), 1);
        DUE.is("image()", x.image(), 1);
        DUE.is("a man", x.man(0, 0, 1), 0);
        DUE.is("restore()", x.restore(), 1);
        DUE.is("nobody again", x.count(0), 0);
        DUE.is("undo()", x.undo(), 0);
        DUE.is("the draw", x.seed(1), 1);
    }

    private static void menWithoutNames() {
        DUE.terms("who finds none is CALLED nothing: there are no NAMES");
        FurrowNames x = new FurrowNames();
        for (int m = 0; m < 6; m++) {
            x.man(m % 5, 4 + m, 1);
        }
        DUE.is("who would be called", x.count(7), 0);
        DUE.is("marches(1)", x.marches(1), 0);
        all("hand", x, 1, 5, 6, 7, 8, 9, 9);
        all("credit", x, 3, 10000, 10000, 10000, 10000, 10000, 10000);
        all("called", x, 4, NONE, NONE, NONE, NONE, NONE, NONE);
        DUE.is("drift(40): six, forty times", x.drift(40), 240);
        DUE.is("field(0)", x.field(0), 0);
        DUE.is("parting(NONE)", x.parting(NONE), 0);
        DUE.is("parting(5)", x.parting(5), NONE);
        DUE.is("luck of nothing: above", x.luck(3, NONE, 0), 1);
        DUE.is("luck of nothing: below", x.luck(3, NONE, 1), 1);
        DUE.is("top(0, 60)", x.top(0, 60), 1);
        DUE.is("needs(0, 0)", x.needs(0, 0), BAD);
        DUE.is("ahead(0, 60, 0)", x.ahead(0, 60, 0), NONE);
        DUE.is("a row of nothing", x.sheet(0, 0, 8), 8);
        DUE.is("film", x.film(0, 8, 0, 0, 0), 8);
        DUE.is("by every kind it is so", x.ledger(5, 0, 0, 0, 8), 31);
        DUE.is("by none it is called 0", x.item(0, 0, 0, 0) + x.ledger(5, 0, 0, 0, 1), 1);
    }

    private static void namesWithoutMen() {
        DUE.terms("WORTH of each that was not 1 less (0 at least): there are no MEN");
        FurrowNames x = new FurrowNames();
        for (int n = 0; n < 6; n++) {
            x.name(n, 20 - n);
        }
        DUE.is("worths of all", x.count(5), 15);
        DUE.is("marches(1)", x.marches(1), 0);
        DUE.is("worths of all", x.count(5), 10);
        DUE.is("debts of all", x.count(6), 105);
        DUE.is("behind 3 more", x.nameAhead(5, 3, 0), 1);
        DUE.is("behind 4 more", x.nameAhead(5, 4, 0), 0);
        DUE.is("behind 5 more", x.nameAhead(5, 5, 0), 0);
        DUE.is("drift(40)", x.drift(40), 0);
        DUE.is("worths of all", x.count(5), 0);
        DUE.is("who is called by the last", x.named(5, 2), NONE);
        DUE.is("parting(NONE)", x.parting(NONE), 0);
        DUE.is("change(-1)", x.change(-1), 0);
        DUE.is("values(0, 0)", x.values(0, 0), BAD);
    }

    private static void emptySheet() {
        DUE.terms("nothing (at first), or a row of a LANE, of 0 to 24 items");
        FurrowNames x = Due.parish("6;p52;3-0");
        for (int s = 0; s < 4; s++) {
            DUE.is("nothing at first", x.item(s, 3, 0, 1), NULL);
            DUE.is("nothing at first", x.ledger(0, s, 3, 0, 1), NULL);
            DUE.is("nothing at first", x.film(0, 1, s, 3, 0), NULL);
            DUE.is("nothing at first", x.copy(s, 0, s, 0, 0), NULL);
            DUE.is("nothing at first", x.drop(s), NULL);
            DUE.is("a row of no item", x.sheet(s, s, 0), 0);
            DUE.is("no item", x.item(s, s, 0, 1), INDEX);
            DUE.is("no item", x.ledger(0, s, s, 0, 1), INDEX);
            DUE.is("no item", x.film(0, 1, s, s, 0), INDEX);
            DUE.is("one of none", x.copy(s, 0, s, 0, 1), INDEX);
            DUE.is("none of none", x.copy(s, 0, s, 0, 0), 0);
            DUE.is("a row of one item", x.sheet(s, s, 1), 1);
            DUE.is("the item", x.item(s, s, 0, 1), 1);
            DUE.is("no item 1", x.item(s, s, 1, 1), INDEX);
            DUE.is("a row of 24 items", x.sheet(s, s, 24), 24);
            DUE.is("the last item", x.item(s, s, 23, 1), 1);
            DUE.is("no item 24", x.item(s, s, 24, 1), INDEX);
            DUE.is("no row of 25", x.sheet(s, s, 25), BAD);
            DUE.is("it stays", x.drop(s), 24);
        }
    }

    // ---- men, names

    private static void manyMen() {
        DUE.terms("MEN 0 .. 5, as they come");
        FurrowNames x = new FurrowNames();
        for (int m = 0; m < 6; m++) {
            DUE.is("no man " + m + " yet", x.of(m, 0), BAD);
            DUE.is("man", x.man(m % 5, m, 1 + m % 4), m);
            DUE.is("hand of man " + m, x.of(m, 1), m);
            DUE.is("how many", x.count(0), m + 1);
        }
        DUE.is("the seventh", x.man(0, 0, 1), FULL);
        DUE.is("no man 6", x.of(6, 0), BAD);
        DUE.is("how many", x.count(0), 6);
        x.name(1, 1);
        x.marches(1);
        DUE.is("a parish of one man in place of six", Due.read(x, "1;p52;1-1"), 1);
        for (int m = 1; m < 6; m++) {
            DUE.is("man " + m + " again", x.man(2, 3, 4), m);
            DUE.is("is called nothing", x.of(m, 4), NONE);
            DUE.is("has no credit", x.of(m, 3), 10000);
        }
        DUE.is("the seventh", x.man(0, 0, 1), FULL);
    }

    private static void manyNames() {
        DUE.terms("NAMES 0 .. 5, as they come");
        FurrowNames x = new FurrowNames();
        for (int n = 0; n < 6; n++) {
            DUE.is("no name " + n + " yet", x.named(n, 0), BAD);
            DUE.is("name", x.name(20 - n, n), n);
            DUE.is("worth of name " + n, x.named(n, 0), 20 - n);
            DUE.is("how many", x.count(1), n + 1);
        }
        DUE.is("the seventh", x.name(0, 0), FULL);
        DUE.is("no name 6", x.named(6, 0), BAD);
        DUE.is("worths of six", x.count(5), 105);
        DUE.is("debts of six", x.count(6), 15);
        DUE.is("six of 20-20", Due.parish("0;p11;20-20,20-20,20-20,20-20,20-20,20-20").count(5), 120);
        DUE.is("six of 20-20", Due.parish("0;p11;20-20,20-20,20-20,20-20,20-20,20-20").count(6), 120);
        DUE.is("six of 0-0", Due.parish("0;p11;0-0,0-0,0-0,0-0,0-0,0-0").count(5), 0);
    }

    private static void creditBelowZero() {
        DUE.terms("CREDIT (0 at first; it may be below 0)");
        // A poor man's one name of worth 0 and debt 20: 40 less, 38 less, .. 2 less, then 0.
        FurrowNames x = Due.parish("6;o52;0-20");
        DUE.is("at first", x.of(0, 3), 10000);
        int credit = 10000;
        for (int debt = 20; debt > 0; debt--) {
            credit -= 2 * debt;
            x.marches(1);
            DUE.is("credit when debt was " + debt, x.of(0, 3), credit);
        }
        DUE.is("the least there is", credit, 9580);
        x.marches(40);
        DUE.is("no less", x.of(0, 3), 9580);
        // The most: an heir's own name of worth 20, 49 a March.
        FurrowNames y = Due.parish("6;h52;20-0");
        y.marches(40);
        DUE.is("the most behind 40", y.of(0, 3), 10000 + 40 * 49);
        DUE.is("the most behind 60 more", y.ahead(0, 60, 1), 10000 + 100 * 49);
    }

    private static void off() {
        DUE.terms("OFF: 10 less HAND, and STONES by OXEN");
        DUE.is("the least", Due.parish("0;p91;1-1").of(0, 5), 1);
        DUE.is("the most of a plain man", Due.parish("20;p01;1-1").of(0, 5), 30);
        DUE.is("the most of all", Due.parish("20;d01;1-1").of(0, 5), 35);
        for (int hand = 0; hand <= 9; hand++) {
            DUE.is("hand " + hand, Due.parish("0;p" + hand + "4;1-1").of(0, 5), 10 - hand);
        }
    }

    private static void divided() {
        DUE.terms("What is divided is cut");
        int[][] by = {
            {0, 1, 2, 3, 4, 5, 6, 7, 8, 9, 10, 11, 12, 13, 14, 15, 16, 17, 18, 19, 20},
            {0, 0, 1, 1, 2, 2, 3, 3, 4, 4, 5, 5, 6, 6, 7, 7, 8, 8, 9, 9, 10},
            {0, 0, 0, 1, 1, 1, 2, 2, 2, 3, 3, 3, 4, 4, 4, 5, 5, 5, 6, 6, 6},
            {0, 0, 0, 0, 1, 1, 1, 1, 2, 2, 2, 2, 3, 3, 3, 3, 4, 4, 4, 4, 5}};
        for (int oxen = 1; oxen <= 4; oxen++) {
            for (int stones = 0; stones <= 20; stones++) {
                FurrowNames x = Due.parish(stones + ";p9" + oxen + ";1-1");
                DUE.is(stones + " stones by " + oxen + " oxen", x.of(0, 5), 1 + by[oxen - 1][stones]);
            }
        }
    }

    private static void drinkers() {
        DUE.terms("DRINKER: OFF 3 more, in a MARCH of an even number (0, too) 5 more");
        FurrowNames x = Due.parish("6;d53;9-0,9-0");
        int[] off = {12, 10, 12, 10, 12};
        for (int march = 0; march < off.length; march++) {
            DUE.is("off in March " + march, x.of(0, 5), off[march]);
            x.marches(1);
        }
        DUE.is("off in March 5", x.of(0, 5), 10);
        x.undo();
        DUE.is("March 4 again", x.of(0, 5), 12);
        FurrowNames y = Due.parish("6;d53;9-0");
        for (int i = 0; i < 249; i++) {
            y.marches(40);
        }
        y.marches(38);
        DUE.is("off in March 9998", y.of(0, 5), 12);
        y.marches(1);
        DUE.is("off in March 9999", y.of(0, 5), 10);
        FurrowNames z = Due.parish("6;p53,r53,o53,h53;9-0,9-0,9-0,9-0");
        for (int march = 0; march < 3; march++) {
            all("no other kind drinks", z, 5, 7, 7, 7, 7);
            z.marches(1);
        }
    }

    private static void values() {
        DUE.terms("VALUES (it may be below 0), by KIND");
        // 0-0, 20-0, 0-20, 20-20; nobody's number is a name's but the plain, proud, poor man's.
        FurrowNames x = Due.parish("6;p51,r51,o51,p51,d51,h51;0-0,20-0,0-20,20-20");
        int[][] due = {{100, 120, 80, 100}, {100, 140, 80, 120}, {100, 120, 60, 80}, {100, 120, 80, 100}, {100, 120, 60, 80},
            {100, 140, 80, 120}};
        for (int m = 0; m < 6; m++) {
            for (int n = 0; n < 4; n++) {
                DUE.is("values(" + m + ", " + n + ")", x.values(m, n), due[m][n]);
            }
        }
    }

    private static void heirs() {
        DUE.terms("HEIR: VALUES as PROUD, but the NAME of his own number 9 more");
        FurrowNames x = Due.parish("6;h51,h51,h51,h51,h51,h51;0-20,20-0,0-0,20-20,1-3,7-1");
        int[] proud = {80, 140, 100, 120, 99, 113};
        for (int m = 0; m < 6; m++) {
            for (int n = 0; n < 6; n++) {
                DUE.is("values(" + m + ", " + n + ")", x.values(m, n), proud[n] + (m == n ? 9 : 0));
            }
        }
        // One whose number no name has yet.
        FurrowNames y = new FurrowNames();
        y.man(0, 5, 1);
        y.man(3, 9, 1);
        y.name(10, 0);
        DUE.is("no name of his number", y.values(1, 0), 120);
        y.name(10, 0);
        DUE.is("the other", y.values(1, 0), 120);
        DUE.is("the name of his number", y.values(1, 1), 129);
        DUE.is("no one else's", y.values(0, 0), 110);
        y.marches(1);
        DUE.is("he takes it", y.of(1, 4), 1);
        // 9 more and no more: 2 * 6 + 9 is 21, as much as 2 * 10 and 1 less than 2 * 11.
        DUE.is("20 and 21", Due.parish("6;h51;6-0,10-0").ahead(0, 1, 0), 0);
        DUE.is("22 and 21", Due.parish("6;h51;6-0,11-0").ahead(0, 1, 0), 1);
        DUE.is("21 and 21: the first", Due.parish("6;h51;6-0,11-1").ahead(0, 1, 0), 0);
    }

    private static void line() {
        DUE.terms("THE LINE: the least first, of like ones by numbers");
        all("all alike", Due.parish("6;p51,p51,p51,p51,p51,p51;1-1"), 6, 0, 1, 2, 3, 4, 5);
        all("the last first", Due.parish("6;p01,p11,p21,p31,p41,p51;1-1"), 6, 5, 4, 3, 2, 1, 0);
        all("the first first", Due.parish("6;p51,p41,p31,p21,p11,p01;1-1"), 6, 0, 1, 2, 3, 4, 5);
        all("two and four", Due.parish("6;p41,p41,p51,p41,p51,p41;1-1"), 6, 2, 3, 0, 4, 1, 5);
        all("one alone", Due.parish("6;p01;1-1"), 6, 0);
        // 10 - 7 + 6, 10 - 3 + 2, 10 - 4 + 3.
        all("alike by other hands and oxen", Due.parish("6;p71,p33,p42;1-1"), 6, 0, 1, 2);
        all("a drinker alike in March 0", Due.parish("6;d91,p41;1-1,1-1"), 5, 12, 12);
        all("a drinker alike in March 0", Due.parish("6;d91,p41;1-1,1-1"), 6, 0, 1);
    }

    private static void choice() {
        DUE.terms("CHOICE: the one he VALUES most, of like ones the first");
        all("one man of six like names", march("0;p91;5-0,5-0,5-0,5-0,5-0,5-0"), 4, 0);
        all("the last is the best", march("0;p91;5-0,5-0,5-0,5-0,5-0,6-0"), 4, 5);
        all("worth and debt alike less", march("0;p91;5-1,5-0,6-1,7-2"), 4, 1);
        all("six of six", march("0;p91,p91,p91,p91,p91,p91;1-0,2-0,3-0,4-0,5-0,6-0"), 4, 5, 4, 3, 2, 1, 0);
        all("six of one", march("0;p01,p11,p21,p31,p41,p51;3-0"), 4, NONE, NONE, NONE, NONE, NONE, 0);
        all("six of five", march("0;p91,p91,p91,p91,p91,p91;5-0,5-0,5-0,5-0,5-0"), 4, 0, 1, 2, 3, 4, NONE);
        DUE.is("a set of six", Due.parish("0;p91,p91,p91,p91,p91,p91;1-0,2-0,3-0,4-0,5-0,6-0").marches(1), 63);
        DUE.is("a set of one", Due.parish("0;p01,p11,p21,p31,p41,p51;3-0").marches(1), 32);
        DUE.is("who would be", Due.parish("0;p01,p11,p21,p31,p41,p51;3-0").count(7), 32);
        // Like values by other worths: to a proud man 4-0 is as 6-4, to a poor man 8-1 is as 6-0.
        all("proud", march("0;r91;4-0,6-4"), 4, 0);
        all("poor", march("0;o91;8-1,6-0"), 4, 0);
        all("poor, by one less", march("0;o91;7-1,6-0"), 4, 1);
    }

    private static void choiceBelowZero() {
        DUE.terms("CHOICE: be it below 0");
        FurrowNames x = march("0;p91,p81,p71;0-20,0-1,0-19");
        all("called", x, 4, 1, 2, 0);
        all("credit", x, 3, 9999, 9981, 9980);
        all("poor", march("0;o91;0-20"), 3, 9960);
        FurrowNames y = march("0;p91;7-7");
        DUE.is("a name that is valued 0", y.of(0, 4), 0);
        DUE.is("credit", y.of(0, 3), 10000);
        DUE.is("hand of who has a name stays", y.of(0, 1), 9);
    }

    private static FurrowNames march(String text) {
        FurrowNames x = Due.parish(text);
        x.marches(1);
        return x;
    }

    private static void handAtMost() {
        DUE.terms("HAND of each who has none is 1 more (9 at most)");
        // By 20 stones and one ox nobody comes before the first, who has four oxen.
        FurrowNames x = Due.parish("20;p94,p01,p71,p81,p91;9-0");
        int[][] hands = {{9, 1, 8, 9, 9}, {9, 2, 9, 9, 9}, {9, 3, 9, 9, 9}};
        for (int[] due : hands) {
            x.marches(1);
            all("hand", x, 1, due);
        }
        x.marches(40);
        all("hand", x, 1, 9, 9, 9, 9, 9);
        FurrowNames y = Due.parish("0;p01;9-0");
        y.marches(40);
        DUE.is("who has a name stays", y.of(0, 1), 0);
    }

    private static void debtAtLeast() {
        DUE.terms("DEBT of each NAME that was taken is 1 less (0 at least)");
        FurrowNames x = Due.parish("0;p91,p91,p91;9-2,9-1,9-0,0-20");
        int[][] debts = {{1, 0, 0, 20}, {0, 0, 0, 20}, {0, 0, 0, 20}};
        for (int[] due : debts) {
            x.marches(1);
            for (int n = 0; n < 4; n++) {
                DUE.is("debt " + n, x.named(n, 1), due[n]);
                DUE.is("worth of a taken one", x.named(n, 0), n < 3 ? 9 : 0);
            }
        }
        // From 20 to 0 in 20 Marches.
        FurrowNames y = Due.parish("0;p91;20-20");
        for (int n = 0; n <= 22; n++) {
            DUE.is("debt behind " + n, y.nameAhead(0, n, 1), n < 20 ? 20 - n : 0);
        }
    }

    private static void worthAtLeast() {
        DUE.terms("WORTH of each that was not 1 less (0 at least)");
        FurrowNames x = Due.parish("0;p91;20-0,2-5,1-5,0-5");
        int[][] worths = {{20, 1, 0, 0}, {20, 0, 0, 0}, {20, 0, 0, 0}};
        for (int[] due : worths) {
            x.marches(1);
            for (int n = 0; n < 4; n++) {
                DUE.is("worth " + n, x.named(n, 0), due[n]);
                DUE.is("debt of one that was not taken", x.named(n, 1), n == 0 ? 0 : 5);
            }
        }
        FurrowNames y = Due.parish("0;r91;20-0,20-1");
        for (int n = 0; n <= 22; n++) {
            DUE.is("worth behind " + n, y.nameAhead(1, n, 0), n < 20 ? 20 - n : 0);
        }
    }

    private static void aMarch() {
        DUE.terms("A MARCH: CREDIT by how much he VALUES it; then DEBT .. 1 less");
        FurrowNames x = march("0;p91;9-3");
        DUE.is("by the debt ahead of it", x.of(0, 3), 10006);
        DUE.is("debt then", x.named(0, 1), 2);
        DUE.is("it is the next March", x.count(2), 1);
        // Two Marches by one call are as two calls of one.
        FurrowNames two = Due.parish("9;p52,r43,o71,h34,d94,p52;12-4,18-15,5-0,20-9,9-9");
        FurrowNames one = Due.parish("9;p52,r43,o71,h34,d94,p52;12-4,18-15,5-0,20-9,9-9");
        for (int i = 0; i < 40; i++) {
            one.marches(1);
        }
        two.marches(40);
        for (int m = 0; m < 6; m++) {
            for (int what = 0; what <= 6; what++) {
                DUE.is("of(" + m + ", " + what + ")", two.of(m, what), one.of(m, what));
            }
        }
        // A name passes on: the second is ahead in March 1.
        FurrowNames y = Due.parish("0;p91,d91,p01;9-0");
        y.marches(1);
        DUE.is("who has it", y.named(0, 2), 0);
        y.hire(0, 1);
        y.stones(9);
        y.hire(1, 4);
        y.marches(1);
        DUE.is("who has it then", y.named(0, 2), 1);
        DUE.is("who had it is called nothing", y.of(0, 4), NONE);
        DUE.is("but keeps his credit", y.of(0, 3), 10009);
    }

    // ---- foretold

    private static void foretold() {
        DUE.terms("FORETOLD from now: behind n MARCHES (0 .. 60)");
        FurrowNames x = Due.parish("0;p91,p01;9-20");
        x.marches(1);
        DUE.is("0: called now", x.ahead(0, 0, 0), 0);
        DUE.is("0: called nothing now", x.ahead(1, 0, 0), NONE);
        DUE.is("0: credit now", x.ahead(0, 0, 1), 9989);
        DUE.is("0: hand now", x.ahead(1, 0, 2), 1);
        DUE.is("0: worth now", x.nameAhead(0, 0, 0), 9);
        DUE.is("0: debt now", x.nameAhead(0, 0, 1), 19);
        DUE.is("8: hand", x.ahead(1, 8, 2), 9);
        DUE.is("9: hand", x.ahead(1, 9, 2), 9);
        // 9 - 19, 9 - 18, .. 9 - 0: 171 of worth by 19 less 190, then 9 each for 41 more; 11 less ahead of it.
        DUE.is("60: credit", x.ahead(0, 60, 1), 10000 - 11 + 171 - 190 + 41 * 9);
        DUE.is("60: debt", x.nameAhead(0, 60, 1), 0);
        DUE.is("61", x.ahead(0, 61, 0), BAD);
        DUE.is("-1", x.ahead(0, -1, 0), BAD);
        DUE.is("nothing is changed", x.count(2), 1);
        DUE.is("nothing is changed", x.count(8), 1);
    }

    private static void train() {
        DUE.terms("TRAIN: 0 to what makes it 9; as much as this one, or more; none");
        DUE.is("from 0 to 9", Due.parish("6;p01,p91;9-0,3-0").needs(0, 0), 9);
        DUE.is("the same by numbers the other way", Due.parish("6;p91,p01;9-0,3-0").needs(1, 0), NONE);
        DUE.is("the lesser one", Due.parish("6;p91,p01;9-0,3-0").needs(1, 1), 0);
        DUE.is("the last step", Due.parish("6;p81,p81;9-0,3-0").needs(1, 0), 1);
        DUE.is("a hand of 9 that is enough", Due.parish("6;p91,p91;9-0,3-0").needs(0, 0), 0);
        DUE.is("a hand of 9 that is not", Due.parish("6;p91,p91;9-0,3-0").needs(1, 0), NONE);
        DUE.is("as much, another one", Due.parish("6;p91,p01;9-0,9-0").needs(1, 0), 0);
        DUE.is("more, another one", Due.parish("6;p91,r01;9-0,8-2,7-1").needs(1, 2), 0);
        DUE.is("one less", Due.parish("6;p91,p01;9-0,8-0").needs(1, 0), NONE);
        DUE.is("nothing is no name, be it of 0", Due.parish("6;p91,p01;0-20").needs(1, 0), NONE);
        DUE.is("below 0 as much", Due.parish("6;p91,p01;0-20,0-20").needs(1, 1), 0);
    }

    private static void field() {
        DUE.terms("FIELD: STONES (0 .. 20); nothing: less than any; of like ones the fewest");
        // Four oxen and a hand of 0 against one ox and a hand: 10 + s / 4 and 10 - hand + s; s less s / 4 is to be hand.
        int[] first = {0, 1, 2, 3, 5, 6, 7, 9, 10, 11};
        for (int hand = 0; hand <= 9; hand++) {
            FurrowNames x = Due.parish("3;p04,p" + hand + "1;10-0,5-0");
            DUE.is("against a hand of " + hand, x.field(0), first[hand]);
            DUE.is("the other", x.field(1), 0);
        }
        DUE.is("the last that may be", Due.parish("3;d03,p91;10-0,5-0").field(0), 20);
        DUE.is("by one ox more of the other it is never", Due.parish("3;d03,p92;10-0,5-0").field(0), 0);
        DUE.is("nothing is less than 40 below 0", Due.parish("3;p91,o04;0-20").field(1), 13);
        DUE.is("nothing by any", Due.parish("3;p94,p01;9-9").field(1), 0);
        DUE.is("the same by all", Due.parish("17;p94,p01;9-9,1-1").field(1), 0);
        DUE.is("stones are not changed", stonesBehindField(), 17);
    }

    private static int stonesBehindField() {
        FurrowNames x = Due.parish("17;p94,p01;9-9,1-1");
        x.field(1);
        return x.count(3);
    }

    private static void parting() {
        DUE.terms("PARTING: 100 more each; of like ones the first; none behind all");
        FurrowNames x = Due.parish("6;o51,o51,o51,o51,o51,o51;0-20,0-20,0-20,0-20,0-20,0-20");
        DUE.is("the worst six", x.parting(NONE), 360);
        for (int m = 0; m < 6; m++) {
            DUE.is("the first of like ones", x.parting(m), m);
        }
        FurrowNames y = Due.parish(Twins.HEIRS.replace("5-0", "20-0"));
        DUE.is("the best six", y.parting(NONE), 894);
        FurrowNames z = Due.parish("6;p51,p51,p51,p51,p51,p51;9-0");
        DUE.is("one name", z.parting(NONE), 109);
        DUE.is("the first has it", z.parting(0), 0);
        for (int m = 1; m < 6; m++) {
            DUE.is("the others none", z.parting(m), NONE);
        }
        FurrowNames w = Due.parish("6;p51;9-0,1-0,9-0,1-0,9-0,9-0");
        DUE.is("one man", w.parting(NONE), 109);
        DUE.is("the first of like names", w.parting(0), 0);
        // The first takes less, so that the second has more: 2 + 40 and not 10 + 18.
        FurrowNames v = Due.parish("6;p51,r51;20-10,2-0");
        DUE.is("together", v.parting(NONE), 232);
        DUE.is("the first", v.parting(0), 1);
        DUE.is("the second", v.parting(1), 0);
        DUE.is("man 2", v.parting(2), BAD);
        // A name of the parish ahead of it is nobody's, though 18 of it would make as much.
        FurrowNames u = Due.parish("6;p51;1-1,18-0");
        DUE.is("another parish", Due.read(u, "6;p51,r51;10-2"), 2);
        DUE.is("together", u.parting(NONE), 118);
        DUE.is("the first has none", u.parting(0), NONE);
        DUE.is("the second has it", u.parting(1), 0);
    }

    private static void change() {
        DUE.terms("CHANGE: pairs (i below j), who would each VALUE the other's more; the k-th (rising)");
        FurrowNames x = Due.parish("0;r91,r91,r91,o91,o91,o91;20-20,20-20,20-20,5-0,5-0,5-0");
        DUE.is("nobody is called yet", x.change(-1), 0);
        x.marches(1);
        DUE.is("nobody would", x.change(-1), 0);
        for (int m = 0; m < 3; m++) {
            x.swap(m, m + 3);
        }
        DUE.is("nine pairs", x.change(-1), 9);
        int[] pairs = {3, 4, 5, 13, 14, 15, 23, 24, 25};
        for (int k = 0; k < 9; k++) {
            DUE.is("change(" + k + ")", x.change(k), pairs[k]);
        }
        DUE.is("change(9)", x.change(9), NONE);
        DUE.is("change(HIGH)", x.change(HIGH), NONE);
        DUE.is("change(-2)", x.change(-2), BAD);
        DUE.is("change(LOW)", x.change(LOW), BAD);
        FurrowNames y = Due.parish("0;p91,p91;5-0,5-0");
        y.marches(1);
        DUE.is("as much is not more", y.change(-1), 0);
        FurrowNames z = Due.parish("0;p91,p91;5-0,6-0");
        z.marches(1);
        DUE.is("one would, the other not", z.change(-1), 0);
        DUE.is("nor the other way", z.swap(0, 1) * 10 + z.change(-1), 0);
    }

    private static void odds(String what, FurrowNames x, int man, int name, int above, int below) {
        DUE.is(what + ": above", x.luck(man, name, 0), above);
        DUE.is(what + ": below", x.luck(man, name, 1), below);
    }

    private static void luck() {
        DUE.terms("LUCK: a fraction in lowest terms (NONE: by nothing)");
        FurrowNames one = Due.parish("6;p51;9-0,1-0");
        odds("sure", one, 0, 0, 1, 1);
        odds("never", one, 0, 1, 0, 1);
        odds("never nothing", one, 0, NONE, 0, 1);
        // By 2 less of hand the second is first only by 0 and 2, a tie that is the first man's: never by number.
        odds("2 off: a tie at most", Due.parish("6;p71,p51;9-0"), 1, 0, 0, 1);
        odds("2 off, the lower number", Due.parish("6;p51,p71;9-0"), 0, 0, 1, 9);
        odds("3 off", Due.parish("6;p51,p81;9-0"), 0, 0, 0, 1);
        odds("3 off", Due.parish("6;p51,p81;9-0"), 1, 0, 1, 1);
        odds("1 off, the higher number", Due.parish("6;p61,p51;9-0"), 1, 0, 1, 9);
        odds("1 off, the lower number", Due.parish("6;p51,p61;9-0"), 0, 0, 1, 3);
        FurrowNames nothing = new FurrowNames();
        nothing.man(0, 0, 1);
        odds("no names", nothing, 0, NONE, 1, 1);
    }

    private static void luckOfSix() {
        DUE.terms("LUCK: each furrow is 0, 1 or 2 more OFF, each as likely, apart");
        // Of 729 the first man of six alike: 243 by 0, 32 by 1, 1 by 2. The second: 2 * 81, 1 * 16, none.
        FurrowNames x = Due.parish("6;p51,p51,p51,p51,p51,p51;9-0");
        odds("the first man", x, 0, 0, 92, 243);
        odds("the second man", x, 1, 0, 178, 729);
        odds("the second man, nothing", x, 1, NONE, 551, 729);
        odds("the last man", x, 5, 0, 11, 243);
        int above = 0;
        for (int m = 0; m < 6; m++) {
            above += x.luck(m, 0, 0) * (729 / x.luck(m, 0, 1));
        }
        DUE.is("one of them has it", above, 729);
        FurrowNames y = Due.parish("20;d01,d01,d01,d01,d01,d01;9-0,8-0,7-0,6-0,5-0,4-0");
        for (int m = 0; m < 6; m++) {
            int all = 0;
            for (int n = 0; n < 6; n++) {
                all += y.luck(m, n, 0) * (729 / y.luck(m, n, 1));
            }
            DUE.is("man " + m + " has one of them", all, 729);
            odds("never nothing", y, m, NONE, 0, 1);
        }
        odds("the farthest furrows are as others", y, 1, 0, 178, 729);
        FurrowNames z = Due.parish("0;p91,p91;9-0");
        odds("the nearest furrows", z, 0, 0, 2, 3);
        odds("the nearest furrows", z, 1, 0, 1, 3);
    }

    private static void top() {
        DUE.terms("TOP: among the next n (1 .. 60), of like ones the first (1: behind the next one)");
        FurrowNames up = Due.parish("0;p91;1-0");
        FurrowNames same = Due.parish("0;p91;0-0");
        FurrowNames down = Due.parish("0;p91;0-20");
        for (int n : new int[] {1, 2, 59, 60}) {
            DUE.is("always more, " + n, up.top(0, n), n);
            DUE.is("always as much, " + n, same.top(0, n), 1);
            DUE.is("always less, " + n, down.top(0, n), 1);
        }
        DUE.is("0", up.top(0, 0), BAD);
        DUE.is("61", up.top(0, 61), BAD);
        // The credit of now is none of them: 20 less, 39 less ..
        DUE.is("below what it is now", down.top(0, 1), 1);
        // 1-3: 2 less, 1 less, 0, then 1 more each: as much as behind the first in March 5, more in March 6.
        FurrowNames x = Due.parish("0;p91;1-3");
        int[] credit = {9998, 9997, 9997, 9998, 9999};
        for (int n = 1; n <= 5; n++) {
            DUE.is("credit behind " + n, x.ahead(0, n, 1), credit[n - 1]);
            DUE.is("top of " + n, x.top(0, n), n < 5 ? 1 : 5);
        }
    }

    private static void ledger() {
        DUE.terms("LEDGER: the next n MARCHES (1 .. 8; -1: nothing)");
        FurrowNames x = Due.parish("0;p91,p01;9-0");
        x.sheet(0, 0, 24);
        for (int i = 0; i < 24; i++) {
            x.item(0, 0, i, i % 2 == 0 ? -1 : 0);
        }
        DUE.is("-1 once", x.ledger(1, 0, 0, 0, 1), 31);
        DUE.is("-1, then 0", x.ledger(1, 0, 0, 0, 2), 0);
        DUE.is("0", x.ledger(1, 0, 0, 1, 1), 0);
        DUE.is("0 once, of the first", x.ledger(0, 0, 0, 1, 1), 31);
        for (int i = 0; i < 24; i++) {
            x.item(0, 0, i, i == 15 ? 0 : -1);
        }
        DUE.is("eight", x.ledger(1, 0, 0, 7, 8), 31);
        DUE.is("the eighth is not so", x.ledger(1, 0, 0, 8, 8), 0);
        DUE.is("the first is not so", x.ledger(1, 0, 0, 15, 8), 0);
        DUE.is("the last eight", x.ledger(1, 0, 0, 16, 8), 31);
        DUE.is("nine", x.ledger(1, 0, 0, 0, 9), BAD);
        DUE.is("none", x.ledger(1, 0, 0, 0, 0), BAD);
        DUE.is("the last eight and one too far", x.ledger(1, 0, 0, 17, 8), INDEX);
        DUE.is("his kind is as it was", x.of(1, 0), 0);
    }

    /** By the ledger an item is seen as -1, of one who is called nothing, or as 0, of one who has the name. */
    private static void seen(FurrowNames x, int lane, long v, long as) {
        DUE.is("item " + v, x.item(lane, lane, 0, v), 1);
        DUE.is(v + " in lane " + lane + " is 0", x.ledger(0, lane, lane, 0, 1), as == 0 ? 31 : 0);
        DUE.is(v + " in lane " + lane + " is -1", x.ledger(1, lane, lane, 0, 1), as == -1 ? 31 : 0);
    }

    private static void lowestBits() {
        DUE.terms("becomes v, its lowest bits: 0 bytes, 1 shorts, 2 ints, 3 longs");
        long[] wrap = {1L << 8, 1L << 16, 1L << 32};
        FurrowNames x = Due.parish("0;p94,p01;9-0");
        for (int lane = 0; lane < 4; lane++) {
            x.sheet(lane, lane, 1);
            seen(x, lane, 0, 0);
            seen(x, lane, -1, -1);
            seen(x, lane, 1, 1);
            seen(x, lane, -2, -2);
            seen(x, lane, Long.MAX_VALUE, lane == 3 ? 9 : -1);
            seen(x, lane, Long.MIN_VALUE, lane == 3 ? 9 : 0);
            seen(x, lane, (1L << 63) - 2, 9);
            if (lane < 3) {
                seen(x, lane, wrap[lane], 0);
                seen(x, lane, wrap[lane] - 1, -1);
                seen(x, lane, -wrap[lane], 0);
                seen(x, lane, -wrap[lane] - 1, -1);
                seen(x, lane, wrap[lane] / 2, 9);
                seen(x, lane, wrap[lane] / 2 - 1, 9);
                seen(x, lane, wrap[lane] + 1, 9);
            }
        }
        for (int lane = 0; lane < 4; lane++) {
            for (int bits = 0; bits < 3; bits++) {
                seen(x, lane, wrap[bits], lane <= bits ? 0 : 9);
                seen(x, lane, wrap[bits] - 1, lane <= bits ? -1 : 9);
            }
        }
    }

    private static void newRow() {
        DUE.terms("A SHEET holds a new row");
        FurrowNames x = Due.parish("0;p94,p01;9-0");
        for (int round = 0; round < 2; round++) {
            DUE.is("a row", x.sheet(2, 2, 24), 24);
            // But for a drinker, who comes behind the other's growing hand in March 6.
            for (int i = 0; i < 24; i += 8) {
                DUE.is("of noughts", x.ledger(0, 2, 2, i, 8), 15);
            }
            DUE.is("film", x.film(1, 24, 2, 2, 0), 24);
            DUE.is("no noughts", x.ledger(0, 2, 2, 23, 1), 0);
        }
        DUE.is("a shorter row", x.sheet(2, 2, 1), 1);
        DUE.is("a longer row", x.sheet(2, 2, 24), 24);
        DUE.is("of noughts", x.ledger(0, 2, 2, 16, 8), 15);
        x.film(1, 24, 2, 2, 0);
        x.drop(2);
        x.sheet(2, 2, 24);
        DUE.is("behind nothing, too", x.ledger(0, 2, 2, 16, 8), 15);
        DUE.is("other sheets are missing still", x.drop(0) + x.drop(1) + x.drop(3), 3 * NULL);
    }

    /** A row 0 1 2 .. of six and again, of heirs who have the name of their own number. */
    private static FurrowNames counted(int lane) {
        FurrowNames x = Due.parish(Twins.HEIRS);
        x.sheet(lane, lane, 24);
        for (int i = 0; i < 24; i++) {
            x.item(lane, lane, i, i % 6);
        }
        return x;
    }

    private static void takenAhead() {
        DUE.terms("come to another one (or the same) .. as if all were taken ahead");
        int[][] moves = {{0, 1, 23}, {1, 0, 23}, {0, 23, 1}, {23, 0, 1}, {0, 0, 24}, {2, 5, 19}, {5, 2, 19}, {24, 24, 0}, {7, 9, 4}};
        for (int lane = 0; lane < 4; lane++) {
            for (int[] m : moves) {
                FurrowNames x = counted(lane);
                DUE.is("copy", x.copy(lane, m[0], lane, m[1], m[2]), m[2]);
                for (int i = 0; i < 24; i++) {
                    boolean moved = i >= m[1] && i < m[1] + m[2];
                    int due = (moved ? i - m[1] + m[0] : i) % 6;
                    DUE.is(m[2] + " from " + m[0] + " to " + m[1] + ", item " + i, x.ledger(due, lane, lane, i, 1) & 8, 8);
                }
            }
        }
        FurrowNames y = counted(1);
        y.sheet(0, 1, 3);
        DUE.is("the last three to another", y.copy(1, 21, 0, 0, 3), 3);
        for (int i = 0; i < 3; i++) {
            DUE.is("item " + i, y.ledger(3 + i, 0, 1, i, 1) & 8, 8);
            DUE.is("it stays where it was", y.ledger(3 + i, 1, 1, 21 + i, 1) & 8, 8);
        }
    }

    private static void filmOfTwentyFour() {
        DUE.terms("film: the next n MARCHES (1 .. 24; -1: nothing), an item each");
        // In March 0 the drinker is 6 off, the other 5: he is called nothing; by any other kind he would have the name.
        for (int lane = 0; lane < 4; lane++) {
            FurrowNames x = Due.parish("0;d91,p51;9-0");
            x.sheet(2, lane, 24);
            x.sheet(0, lane, 1);
            DUE.is("film of 24", x.film(0, 24, 2, lane, 0), 24);
            DUE.is("film of 25", x.film(0, 25, 2, lane, 0), BAD);
            DUE.is("film of 0", x.film(0, 0, 2, lane, 0), BAD);
            DUE.is("the drinker's kind alone", x.ledger(0, 2, lane, 0, 8), 16);
            for (int n = 1; n <= 24; n++) {
                x.copy(2, n - 1, 0, 0, 1);
                DUE.is("item " + n, x.ledger(0, 0, lane, 0, 1), x.ahead(0, n, 0) == NONE ? 16 : 15);
            }
            DUE.is("film of 1 to the last", x.film(1, 1, 2, lane, 23), 1);
            x.copy(2, 23, 0, 0, 1);
            DUE.is("the other has the name in March 0", x.ledger(0, 0, lane, 0, 1), 15);
        }
    }

    // ---- undone

    private static void eightKnown() {
        DUE.terms("UNDONE: 8 are known, older ones lost");
        for (int deeds = 0; deeds <= 18; deeds++) {
            FurrowNames x = Due.parish("0;p91;9-0");
            for (int i = 0; i < deeds; i++) {
                DUE.is("what may be undone", x.count(8), Math.min(i, 8));
                x.marches(1);
            }
            int known = Math.min(deeds, 8);
            DUE.is("known of " + deeds, x.count(8), known);
            for (int left = known - 1; left >= 0; left--) {
                DUE.is("undo()", x.undo(), left);
                DUE.is("March", x.count(2), deeds - known + left);
            }
            DUE.is("undo()", x.undo(), NONE);
            DUE.is("March", x.count(2), deeds - known);
        }
        for (int n : new int[] {7, 8, 9, 40}) {
            FurrowNames x = Due.parish("0;p91;9-0");
            x.marches(n);
            DUE.is("marches(" + n + ")", x.count(8), Math.min(n, 8));
            FurrowNames y = Due.parish("0;p91;9-0");
            y.drift(n);
            DUE.is("drift(" + n + ")", y.count(8), Math.min(n, 8));
        }
    }

    private static void ninthLost() {
        DUE.terms("UNDONE: the ninth, of every sort, puts the oldest out");
        for (int ninth = 0; ninth < 5; ninth++) {
            FurrowNames x = Due.parish("0;p51,p41;9-0,5-0");
            x.marches(1);
            x.hire(0, 2);
            for (int i = 0; i < 6; i++) {
                x.hire(1, 1 + i % 4);
            }
            DUE.is("eight", x.count(8), 8);
            deed(x, ninth);
            DUE.is("eight still", x.count(8), 8);
            for (int left = 7; left >= 0; left--) {
                DUE.is("undo()", x.undo(), left);
            }
            DUE.is("the March is lost: it can't be undone", x.count(2), 1);
            DUE.is("the hiring behind it could", x.of(0, 2), 1);
            DUE.is("undo()", x.undo(), NONE);
            DUE.is("one more may be done", x.train(0), 6);
            DUE.is("undo()", x.undo(), 0);
        }
    }

    private static void deed(FurrowNames x, int which) {
        switch (which) {
            case 0: DUE.is("marches", x.marches(1), 3); break;
            case 1: DUE.is("train", x.train(0), 6); break;
            case 2: DUE.is("hire", x.hire(0, 4), 2); break;
            case 3: DUE.is("swap", x.swap(0, 1), 1); break;
            default: DUE.is("drift", x.drift(1), 0);
        }
    }

    private static void eachDeedUndone() {
        DUE.terms("UNDONE: HANDS, OXEN, CREDIT, by what all are CALLED, WORTHS, DEBTS, the MARCH are as ahead of it");
        FurrowNames x = Due.parish("6;p21,r81,o51;10-3,4-8");
        DUE.is("marches(1)", x.marches(1), 6);
        DUE.is("undo()", x.undo(), 0);
        all("hand", x, 1, 2, 8, 5);
        all("oxen", x, 2, 1, 1, 1);
        all("credit", x, 3, 10000, 10000, 10000);
        all("called", x, 4, NONE, NONE, NONE);
        DUE.is("worths", x.count(5), 14);
        DUE.is("debts", x.count(6), 11);
        DUE.is("March", x.count(2), 0);
        DUE.is("train(0)", x.train(0), 3);
        DUE.is("undo()", x.undo(), 0);
        all("hand", x, 1, 2, 8, 5);
        DUE.is("hire(2, 4)", x.hire(2, 4), 1);
        DUE.is("undo()", x.undo(), 0);
        all("oxen", x, 2, 1, 1, 1);
        DUE.is("hire(2, 1), as many as they were", x.hire(2, 1), 1);
        DUE.is("it is one that may be undone", x.count(8), 1);
        DUE.is("undo()", x.undo(), 0);
        x.marches(1);
        DUE.is("swap(1, 2)", x.swap(1, 2), 1);
        DUE.is("undo()", x.undo(), 1);
        all("called", x, 4, NONE, 0, 1);
        DUE.is("swap(1, 0) is refused", x.swap(1, 0), NOT);
        DUE.is("nothing more may be undone by it", x.count(8), 1);
    }

    private static void nothingToBeUndone() {
        DUE.terms("a PARISH, a new MAN, NAME leave nothing to be UNDONE");
        String[] by = {"a parish", "a man", "a name", "a fault", "a man too many", "a bad man", "a bad name"};
        for (int i = 0; i < by.length; i++) {
            FurrowNames x = Due.parish("0;p91,p81,p71,p61,p51;9-0");
            if (i == 4) {
                x.man(0, 0, 1);
            }
            x.marches(3);
            switch (i) {
                case 0: DUE.is(by[i], Due.read(x, "1;p52;1-1"), 1); break;
                case 1: DUE.is(by[i], x.man(0, 0, 1), 5); break;
                case 2: DUE.is(by[i], x.name(0, 1), 1); break;
                case 3: DUE.is(by[i], Due.read(x, "1;p52;1-"), -28); break;
                case 4: DUE.is(by[i], x.man(0, 0, 1), FULL); break;
                case 5: DUE.is(by[i], x.man(5, 0, 1), BAD); break;
                default: DUE.is(by[i], x.name(21, 0), BAD);
            }
            DUE.is(by[i] + ": what may be undone", x.count(8), i < 3 ? 0 : 3);
            DUE.is(by[i] + ": undo()", x.undo(), i < 3 ? NONE : 2);
            DUE.is(by[i] + ": the March", x.count(2), i == 0 ? 0 : i < 3 ? 3 : 2);
        }
        FurrowNames x = Due.parish("0;p91;9-0");
        x.marches(9);
        x.name(1, 1);
        x.train(0);
        x.marches(1);
        DUE.is("what comes behind a new name may", x.count(8), 1);
        DUE.is("undo()", x.undo(), 0);
        DUE.is("undo()", x.undo(), NONE);
        DUE.is("March", x.count(2), 9);
    }

    private static void toldSince() {
        DUE.terms("UNDONE: .. THE DRAW .. as ahead of it, whatever was told since");
        FurrowNames x = Due.parish("5;p51;9-0");
        x.seed(70);
        x.train(0);
        x.seed(71);
        x.stones(11);
        DUE.is("undo()", x.undo(), 0);
        DUE.is("the draw is as ahead of the training", x.seed(72), 70);
        DUE.is("stones are not among what is as ahead of it", x.count(3), 11);
        DUE.is("a seed is no deed", x.undo(), NONE);
        DUE.is("the draw stays when nothing is undone", x.seed(0), 72);
        x.image();
        x.hire(0, 3);
        x.sheet(1, 2, 3);
        x.type('4');
        x.undo();
        DUE.is("sheets are not undone", x.drop(1), 3);
        DUE.is("nor the tape", x.type('4'), 2);
        DUE.is("nor the image", x.restore(), 1);
    }

    private static void drawUndone() {
        DUE.terms("UNDONE: a MARCH of a DRIFT is as it had not been, with its draw");
        FurrowNames x = Due.parish("5;p51;9-0");
        x.drift(1);
        DUE.is("undo()", x.undo(), 0);
        DUE.is("the draw", x.seed(1), 1);
        int first = next(1);
        int second = next(first);
        x.drift(3);
        DUE.is("undo()", x.undo(), 2);
        DUE.is("the draw behind two", x.seed(5), second);
        DUE.is("undo()", x.undo(), 1);
        DUE.is("the draw behind one", x.seed(6), first);
        DUE.is("a March without a draw", x.marches(1), 1);
        DUE.is("undo()", x.undo(), 1);
        DUE.is("the draw told ahead of it", x.seed(7), 6);
        DUE.is("undo()", x.undo(), 0);
        DUE.is("the draw behind none", x.seed(8), 1);
        // Done again, it is as it was.
        x.seed(1);
        DUE.is("drift(3)", x.drift(3), 0);
        DUE.is("the draw behind three", x.seed(9), next(second));
    }

    private static void undoneInPart() {
        DUE.terms("UNDONE: what is done behind it is known anew");
        FurrowNames x = Due.parish("0;p01;9-0");
        for (int i = 0; i < 8; i++) {
            x.train(0);
        }
        for (int round = 0; round < 20; round++) {
            DUE.is("undo()", x.undo(), 7);
            DUE.is("undo()", x.undo(), 6);
            DUE.is("hand", x.of(0, 1), 6);
            DUE.is("train(0)", x.train(0), 7);
            DUE.is("train(0)", x.train(0), 8);
            DUE.is("eight", x.count(8), 8);
        }
        for (int left = 7; left >= 0; left--) {
            DUE.is("undo()", x.undo(), left);
            DUE.is("hand", x.of(0, 1), left);
        }
    }

    // ---- the draw

    /** The draw behind a draw, as the document has it, by numbers without an end. */
    private static int next(int draw) {
        return BigInteger.valueOf(draw).multiply(BigInteger.valueOf(1103515245L)).add(BigInteger.valueOf(12345))
            .mod(BigInteger.valueOf(2147483648L)).intValueExact();
    }

    private static void drawWraps() {
        DUE.terms("THE DRAW is a number of 31 bits: the lowest 31 bits of itself times 1103515245 and 12345 more");
        // Worked by hand: 0 gives 12345, 1 gives 1103527590, 2 wraps: 2207030490 + 12345 - 2147483648.
        int[][] worked = {{0, 12345}, {1, 1103527590}, {2, 59559187}, {HIGH, 1043980748}};
        for (int[] two : worked) {
            FurrowNames x = Due.parish("5;p51;9-0");
            x.seed(two[0]);
            x.drift(1);
            DUE.is("behind " + two[0], x.seed(0), two[1]);
        }
        for (int i = 0; i < 31; i++) {
            for (int v : new int[] {1 << i, (1 << i) - 1, HIGH - (1 << i)}) {
                if (v >= 0) {
                    FurrowNames x = Due.parish("5;p51;9-0");
                    x.seed(v);
                    x.drift(1);
                    DUE.is("behind " + v, x.seed(0), next(v));
                }
            }
        }
        FurrowNames y = Due.parish("5;p51;9-0");
        y.marches(5);
        DUE.is("Marches leave it", y.seed(3), 1);
        DUE.is("a parish leaves it", Due.read(y, "5;p51;9-0") * 10 + y.seed(0), 13);
    }

    /** A draw's stones, seen by who is ahead: four oxen and a hand of 0 are ahead of one ox and a hand of h by 4/3 h or so. */
    private static void stonesOfADraw() {
        DUE.terms("it by 65536, left over by 21, are the STONES of this MARCH alone");
        int[] seen = new int[21];
        int draw = 1;
        for (int i = 0; i < 300; i++) {
            int stones = (int) (next(draw) / 65536L % 21L);
            seen[stones]++;
            for (int hand = 1; hand <= 9; hand += 4) {
                FurrowNames x = Due.parish("7;p" + hand + "1,p04;9-0");
                x.seed(draw);
                DUE.is("one is called nothing", x.drift(1), 1);
                boolean secondAhead = 10 + stones / 4 < 10 - hand + stones;
                DUE.is("by " + stones + " stones, hand " + hand, x.of(1, 4), secondAhead ? 0 : NONE);
                DUE.is("stones of the parish stay", x.count(3), 7);
            }
            draw = next(draw);
        }
        for (int stones = 0; stones <= 20; stones++) {
            DUE.is(stones + " stones were drawn", seen[stones] > 0 ? 1 : 0, 1);
        }
    }

    private static void longDrift() {
        DUE.terms("DRIFT: how often one was CALLED nothing");
        DUE.is("never", Due.parish("5;p51,p52;9-0,8-0").drift(40), 0);
        DUE.is("one of two each time", Due.parish("5;p51,p52;9-0").drift(40), 40);
        DUE.is("five of six each time", Due.parish("5;p51,p52,p53,p54,p51,p52;9-0").drift(40), 200);
        FurrowNames x = Due.parish("5;p51,p52;9-0");
        DUE.is("one", x.drift(1), 1);
        DUE.is("not those of the drift ahead of it", x.drift(2), 2);
    }

    // ---- images

    private static void imageHasAll() {
        DUE.terms("All but SHEETS, THE TAPE is kept as an IMAGE");
        FurrowNames x = Due.parish("5;p51,p52;9-0,8-3");
        x.seed(33);
        x.marches(9);
        x.train(1);
        DUE.is("image()", x.image(), 1);
        for (int i = 0; i < 9; i++) {
            x.hire(0, 1 + i % 4);
        }
        x.stones(20);
        x.seed(34);
        x.man(4, 1, 1);
        x.name(1, 1);
        DUE.is("restore()", x.restore(), 1);
        int[] counts = {2, 2, 9, 5, 3, 17, 0, 3, 8};
        for (int what = 0; what < counts.length; what++) {
            DUE.is("count(" + what + ")", x.count(what), counts[what]);
        }
        DUE.is("the draw", x.seed(35), 33);
        DUE.is("oxen", x.of(0, 2), 1);
        DUE.is("no man 2", x.of(2, 0), BAD);
        DUE.is("no name 2", x.named(2, 0), BAD);
        DUE.is("undo()", x.undo(), 7);
        DUE.is("hand", x.of(1, 1), 5);
        for (int left = 6; left >= 0; left--) {
            DUE.is("undo()", x.undo(), left);
            DUE.is("March", x.count(2), left + 2);
        }
        DUE.is("undo()", x.undo(), NONE);
        DUE.is("restore() again", x.restore(), 1);
        DUE.is("eight again", x.count(8), 8);
        DUE.is("the draw again", x.seed(35), 33);
    }

    private static void imageHasNot() {
        DUE.terms("All but SHEETS, THE TAPE: they stay as they are");
        FurrowNames x = Due.parish("5;p51;9-0");
        x.sheet(0, 0, 5);
        x.sheet(1, 1, 6);
        x.type('7');
        x.image();
        x.drop(0);
        x.sheet(1, 3, 2);
        x.sheet(2, 2, 9);
        x.type(';');
        DUE.is("restore()", x.restore(), 1);
        DUE.is("sheet 0", x.drop(0), NULL);
        DUE.is("sheet 1", x.item(1, 3, 1, 1), 1);
        DUE.is("sheet 2", x.drop(2), 9);
        DUE.is("the tape", x.type('p'), 3);
        DUE.is("the tape", x.parish(), -23);
        DUE.is("behind a fault the image is there", x.restore(), 1);
        DUE.is("an image of an image", x.image() + x.restore(), 2);
    }
}

/** Promises 18 to 27: what is foretold, images. */
public final class ForetoldTest {
    private static final Due DUE = new Due("ForetoldTest");
    private static final int BAD = -1, FULL = -3, NONE = -4;
    private static final int LOW = Integer.MIN_VALUE, HIGH = Integer.MAX_VALUE;

    public static void main(String[] args) {
        ahead();
        nameAhead();
        needs();
        needsAsGood();
        field();
        parting();
        partingOfLikeOnes();
        partingOfFewer();
        change();
        luck();
        luckOfThree();
        top();
        image();
        DUE.end();
    }

    private static void ahead() {
        DUE.promise(18, "ahead");
        FurrowNames x = Due.parish("6;p21,r81,o51;10-3,4-8");
        DUE.is("called now", x.ahead(0, 0, 0), NONE);
        DUE.is("credit now", x.ahead(0, 0, 1), 10000);
        DUE.is("hand now", x.ahead(0, 0, 2), 2);
        int[][] first = {{NONE, 10000, 3}, {0, 10017, 8}, {1, 9988, 5}};
        int[][] fourth = {{1, 9999, 5}, {0, 10074, 8}, {NONE, 9970, 6}};
        for (int m = 0; m < 3; m++) {
            for (int what = 0; what < 3; what++) {
                DUE.is("ahead(" + m + ", 1, " + what + ")", x.ahead(m, 1, what), first[m][what]);
                DUE.is("ahead(" + m + ", 4, " + what + ")", x.ahead(m, 4, what), fourth[m][what]);
            }
        }
        DUE.is("nothing is changed", x.count(2), 0);
        DUE.is("nothing is changed", x.count(4), 0);
        DUE.is("nothing is changed", x.count(6), 11);
        DUE.is("nothing is changed", x.count(8), 0);
        FurrowNames y = Due.parish("6;p21,r81,o51;10-3,4-8");
        for (int n = 1; n <= 60; n++) {
            y.marches(1);
            for (int m = 0; m < 3; m++) {
                DUE.is("called behind " + n, x.ahead(m, n, 0), y.of(m, 4));
                DUE.is("credit behind " + n, x.ahead(m, n, 1), y.of(m, 3));
            }
        }
        int[][] bad = {{-1, 1, 0}, {3, 1, 0}, {LOW, 1, 0}, {HIGH, 1, 0}, {0, -1, 0}, {0, 61, 0}, {0, LOW, 0}, {0, HIGH, 0},
            {0, 1, -1}, {0, 1, 3}, {0, 1, LOW}, {0, 1, HIGH}};
        for (int[] b : bad) {
            DUE.is("a bad ahead", x.ahead(b[0], b[1], b[2]), BAD);
        }
    }

    private static void nameAhead() {
        DUE.promise(19, "nameAhead");
        FurrowNames x = Due.parish("0;p91;5-9,1-0,9-3");
        // The third is taken for ever: worth 9, debt 3, 2, 1, 0.
        int[] debt = {3, 2, 1, 0, 0};
        for (int n = 0; n < 5; n++) {
            DUE.is("debt behind " + n, x.nameAhead(2, n, 1), debt[n]);
            DUE.is("worth behind " + n, x.nameAhead(2, n, 0), 9);
            DUE.is("worth of the first behind " + n, x.nameAhead(0, n, 0), 5 - n);
            DUE.is("debt of the first behind " + n, x.nameAhead(0, n, 1), 9);
        }
        DUE.is("behind 60", x.nameAhead(0, 60, 0), 0);
        DUE.is("nothing is changed", x.named(0, 0), 5);
        int[][] bad = {{-1, 1, 0}, {3, 1, 0}, {LOW, 1, 0}, {HIGH, 1, 0}, {0, -1, 0}, {0, 61, 0}, {0, LOW, 0}, {0, HIGH, 0},
            {0, 1, -1}, {0, 1, 2}, {0, 1, LOW}, {0, 1, HIGH}};
        for (int[] b : bad) {
            DUE.is("a bad nameAhead", x.nameAhead(b[0], b[1], b[2]), BAD);
        }
    }

    private static void needs() {
        DUE.promise(20, "needs");
        FurrowNames x = Due.parish("6;p31,p71;10-0,5-0");
        DUE.is("needs(0, 1)", x.needs(0, 1), 0);
        DUE.is("a like hand, a lower number", x.needs(0, 0), 4);
        DUE.is("needs(1, 0)", x.needs(1, 0), 0);
        DUE.is("needs(1, 1)", x.needs(1, 1), 0);
        DUE.is("nothing is changed", x.of(0, 1), 3);
        FurrowNames y = Due.parish("6;p91,p71;10-0,5-0");
        DUE.is("a like hand, a higher number", y.needs(1, 0), NONE);
        DUE.is("hand 9", y.needs(0, 0), 0);
        FurrowNames z = Due.parish("6;p91,p71;10-0");
        DUE.is("no name at all", z.needs(1, 0), NONE);
        for (int bad : new int[] {-1, -4, 2, 6, LOW, HIGH}) {
            DUE.is("needs(" + bad + ", 0)", x.needs(bad, 0), BAD);
            DUE.is("needs(0, " + bad + ")", x.needs(0, bad), BAD);
        }
        DUE.is("no name 1", z.needs(0, 1), BAD);
    }

    private static void needsAsGood() {
        DUE.promise(20, "needs: as good");
        // Off 12, 9, 11. Man 1 takes the first, man 2 the second, man 0 the third, as good to him as the second.
        FurrowNames x = Due.parish("6;p41,p71,r51;10-0,8-4,4-0");
        DUE.is("another as good", x.needs(0, 1), 0);
        DUE.is("the best", x.needs(0, 0), 3);
        // A drinker: off 5 more in March 0, 3 more in March 1.
        FurrowNames y = Due.parish("0;d31,p41;9-0,9-1");
        DUE.is("in March 0", y.needs(0, 0), 6);
        y.marches(1);
        DUE.is("in March 1", y.needs(0, 1), 0);
        FurrowNames z = Due.parish("0;d31,p41;9-0");
        z.marches(1);
        // His hand is 4 then: 9 off, and 6.
        DUE.is("in March 1", z.needs(0, 0), 3);
    }

    private static void field() {
        DUE.promise(21, "field");
        // Man 0 is ahead by 6 stones and more.
        FurrowNames x = Due.parish("3;p04,p51;10-0,5-0");
        DUE.is("field(0)", x.field(0), 6);
        DUE.is("field(1)", x.field(1), 0);
        DUE.is("nothing is changed", x.count(3), 3);
        FurrowNames y = Due.parish("3;p04,p51;0-20");
        DUE.is("a name below 0 is more than none", y.field(0), 6);
        FurrowNames z = Due.parish("3;p91,p04;10-0,5-0,0-20");
        DUE.is("13 stones", z.field(1), 13);
        FurrowNames none = Due.parish("20;p91,p01;10-0");
        DUE.is("nothing by any", none.field(1), 0);
        FurrowNames nobody = new FurrowNames();
        nobody.man(0, 1, 1);
        DUE.is("no name", nobody.field(0), 0);
        FurrowNames last = Due.parish("3;p91,p33,p04;10-0,7-0,5-0");
        // Off by 15: 16, 12, 13; by 14: 15, 11, 13; by 20: 21, 13, 15: man 2 is never ahead of man 1.
        DUE.is("the second", last.field(2), 13);
        // Off 10 + 5 + 20 / 3 and 1 + 20; by 19 stones 21 and 20.
        DUE.is("20 stones", Due.parish("3;d03,p91;10-0,5-0").field(0), 20);
        DUE.is("20 stones or nothing", Due.parish("3;d03,p91;10-0").field(0), 20);
        for (int bad : new int[] {-1, -4, 2, 6, LOW, HIGH}) {
            DUE.is("field(" + bad + ")", x.field(bad), BAD);
        }
    }

    private static void parting() {
        DUE.promise(22, "parting");
        // Plain 5 and 8, poor 0 and 8: the plain one leaves the second.
        FurrowNames x = Due.parish("6;p51,o51;10-5,8-0");
        DUE.is("how much", x.parting(NONE), 213);
        DUE.is("parting(0)", x.parting(0), 0);
        DUE.is("parting(1)", x.parting(1), 1);
        FurrowNames y = Due.parish("6;p51,r51,o51;10-2");
        DUE.is("how much", y.parting(NONE), 118);
        DUE.is("parting(0)", y.parting(0), NONE);
        DUE.is("parting(1)", y.parting(1), 0);
        DUE.is("parting(2)", y.parting(2), NONE);
        FurrowNames z = Due.parish("6;o51;0-20");
        DUE.is("below 0 is better than none", z.parting(NONE), 60);
        DUE.is("parting(0)", z.parting(0), 0);
        FurrowNames w = Due.parish("6;p51;3-0,9-1,9-1");
        DUE.is("how much", w.parting(NONE), 108);
        DUE.is("the first of like ones", w.parting(0), 1);
        for (int bad : new int[] {-1, -2, -3, -5, 2, 6, LOW, HIGH}) {
            DUE.is("parting(" + bad + ")", x.parting(bad), BAD);
        }
        DUE.is("of nobody", new FurrowNames().parting(NONE), 0);
        DUE.is("of nobody", new FurrowNames().parting(0), BAD);
        FurrowNames v = new FurrowNames();
        v.man(0, 1, 1);
        DUE.is("no names", v.parting(NONE), 0);
        DUE.is("no names", v.parting(0), NONE);
        DUE.is("nothing is changed", x.count(4), 0);
    }

    private static void partingOfLikeOnes() {
        DUE.promise(22, "parting: like ones");
        FurrowNames x = Due.parish("6;p51,p51,p51;9-0,9-0");
        DUE.is("how much", x.parting(NONE), 218);
        DUE.is("parting(0)", x.parting(0), 0);
        DUE.is("parting(1)", x.parting(1), 1);
        DUE.is("none behind all", x.parting(2), NONE);
        FurrowNames y = Due.parish("6;p51,p52,p53,p54,p61,p71;1-0,2-0,3-0,4-0,5-0,6-0");
        DUE.is("how much", y.parting(NONE), 621);
        for (int m = 0; m < 6; m++) {
            DUE.is("parting(" + m + ")", y.parting(m), m);
        }
        FurrowNames z = Due.parish("6;p51,p52,p53,h54,p61,p71;1-0,2-0,3-0,4-0,5-0,6-0");
        // The heir's own is worth 17 to him, the last one 12: 17 and 17 of all others.
        DUE.is("how much", z.parting(NONE), 600 + 17 + 17);
        DUE.is("parting(3)", z.parting(3), 3);
        DUE.is("parting(4)", z.parting(4), 4);
    }

    private static void partingOfFewer() {
        DUE.promise(22, "parting: fewer men, names than ahead of it");
        FurrowNames x = Due.parish("6;p51,p52,p53,p54,p61,p71;11-0,12-0,13-0,14-0,15-0,16-0");
        DUE.is("how much", x.parting(NONE), 681);
        for (int men = 5; men >= 1; men--) {
            for (int names = 6; names >= 1; names--) {
                String text = "6;p51,p52,p53,p54,p61".substring(0, 1 + 4 * men) + ";1-0,1-0,1-0,1-0,1-0,1-0".substring(0, 4 * names);
                Due.read(x, text);
                DUE.is("how much, of " + men + " and " + names, x.parting(NONE), 101 * Math.min(men, names));
                DUE.is("the last man's", x.parting(men - 1), men <= names ? men - 1 : NONE);
            }
        }
    }

    private static void change() {
        DUE.promise(23, "change");
        FurrowNames x = Due.parish("0;r91,o81;10-5,8-0");
        DUE.is("nobody is called", x.change(-1), 0);
        x.marches(2);
        DUE.is("called 0", x.of(0, 4), 0);
        DUE.is("nobody would", x.change(-1), 0);
        x.swap(0, 1);
        DUE.is("both would", x.change(-1), 1);
        DUE.is("change(0)", x.change(0), 1);
        DUE.is("change(1)", x.change(1), NONE);
        DUE.is("change(HIGH)", x.change(HIGH), NONE);
        DUE.is("change(-2)", x.change(-2), BAD);
        DUE.is("change(LOW)", x.change(LOW), BAD);
        DUE.is("nothing is changed", x.of(0, 4), 1);
        // Heirs who have one another's: 0 and 5, 1 and 4, 2 and 3.
        FurrowNames y = Due.parish("0;h91,h91,h91,h91,h91,h91;5-0,5-0,5-0,5-0,5-0,5-0");
        y.marches(1);
        DUE.is("each has his own", y.of(4, 4), 4);
        y.swap(0, 5);
        y.swap(1, 4);
        y.swap(2, 3);
        DUE.is("how many", y.change(-1), 3);
        int[] pairs = {5, 14, 23, NONE};
        for (int k = 0; k < 4; k++) {
            DUE.is("change(" + k + ")", y.change(k), pairs[k]);
        }
        // Who is called nothing changes with nobody, whatever the names are worth.
        FurrowNames v = Due.parish("0;p91,p81,p71;0-20,0-9");
        v.marches(1);
        DUE.is("called nothing", v.of(2, 4), NONE);
        DUE.is("nobody would", v.change(-1), 0);
        FurrowNames u = Due.parish("0;p71,p81,p91;0-20,0-9");
        u.marches(1);
        DUE.is("called nothing", u.of(0, 4), NONE);
        DUE.is("nobody would", u.change(-1), 0);
        // Like values are not more.
        FurrowNames z = Due.parish("0;p91,h91;5-0,5-0,0-0");
        z.marches(1);
        z.swap(0, 1);
        DUE.is("one of two would", z.change(-1), 0);
        DUE.is("change(0)", z.change(0), NONE);
    }

    private static void odds(FurrowNames x, int man, int name, int above, int below) {
        DUE.is("luck(" + man + ", " + name + ", 0)", x.luck(man, name, 0), above);
        DUE.is("luck(" + man + ", " + name + ", 1)", x.luck(man, name, 1), below);
    }

    private static void luck() {
        DUE.promise(24, "luck");
        int[][] one = {{2, 3}, {8, 9}, {1, 1}, {1, 1}};
        int[][] two = {{1, 3}, {1, 9}, {0, 1}, {0, 1}};
        for (int less = 0; less < 4; less++) {
            FurrowNames x = Due.parish("6;p51,p" + (5 - less) + "1;9-0");
            odds(x, 0, 0, one[less][0], one[less][1]);
            odds(x, 0, NONE, two[less][0], two[less][1]);
            odds(x, 1, 0, two[less][0], two[less][1]);
            odds(x, 1, NONE, one[less][0], one[less][1]);
        }
        FurrowNames y = Due.parish("6;p41,p51;9-0,3-0,1-0");
        odds(y, 0, 0, 1, 3);
        odds(y, 0, 1, 2, 3);
        odds(y, 0, 2, 0, 1);
        odds(y, 0, NONE, 0, 1);
        odds(y, 1, 0, 2, 3);
        DUE.is("nothing is changed", y.count(2), 0);
        for (int bad : new int[] {-1, -4, 2, 6, LOW, HIGH}) {
            DUE.is("luck(" + bad + ", 0, 0)", y.luck(bad, 0, 0), BAD);
        }
        for (int bad : new int[] {-1, -2, -3, -5, 3, 6, LOW, HIGH}) {
            DUE.is("luck(0, " + bad + ", 0)", y.luck(0, bad, 0), BAD);
        }
        for (int bad : new int[] {-1, 2, LOW, HIGH}) {
            DUE.is("luck(0, 0, " + bad + ")", y.luck(0, 0, bad), BAD);
            DUE.is("luck(0, NONE, " + bad + ")", y.luck(0, NONE, bad), BAD);
        }
        FurrowNames z = new FurrowNames();
        z.man(0, 1, 1);
        odds(z, 0, NONE, 1, 1);
        DUE.is("no name 0", z.luck(0, 0, 0), BAD);
    }

    private static void luckOfThree() {
        DUE.promise(24, "luck of more");
        // Of 27: man 0 is first in 14, man 1 in 8, man 2 in 5.
        FurrowNames x = Due.parish("6;p51,p51,p51;9-0,3-0");
        odds(x, 0, 0, 14, 27);
        odds(x, 1, 0, 8, 27);
        odds(x, 2, 0, 5, 27);
        // He is last if both others are ahead: 5, 8, 14 by number.
        odds(x, 0, NONE, 5, 27);
        odds(x, 1, NONE, 8, 27);
        odds(x, 2, NONE, 14, 27);
        odds(x, 0, 1, 8, 27);
        // A drinker of March 0 is 5 off more; in March 1 only 3.
        FurrowNames y = Due.parish("0;p31,d71;9-0,9-0");
        odds(y, 1, 0, 1, 9);
        y.marches(1);
        odds(y, 1, 0, 2, 3);
        // The furthest furrows: 10 - 0 + 20 + 5.
        FurrowNames w = Due.parish("20;d01,d01;9-0,9-0,9-0");
        odds(w, 0, 0, 2, 3);
        odds(w, 1, 0, 1, 3);
        // Six alike and one name: the last has it only where the others are more off: (2^5 + 1) / 3^6.
        FurrowNames z = Due.parish("6;p51,p51,p51,p51,p51,p51;9-0");
        odds(z, 5, 0, 11, 243);
        odds(z, 5, NONE, 232, 243);
    }

    private static void top() {
        DUE.promise(25, "top");
        // Credit: -6 -11 -15 -18 -20 -21 -21 -20 -18 -15 -12 -9 -6 -3.
        FurrowNames x = Due.parish("0;p91;3-9");
        DUE.is("ahead(0, 7, 1)", x.ahead(0, 7, 1), 9979);
        for (int n = 1; n <= 13; n++) {
            DUE.is("top(0, " + n + ")", x.top(0, n), 1);
        }
        DUE.is("top(0, 14)", x.top(0, 14), 14);
        DUE.is("top(0, 60)", x.top(0, 60), 60);
        DUE.is("nothing is changed", x.count(2), 0);
        x.marches(6);
        DUE.is("top(0, 1)", x.top(0, 1), 1);
        DUE.is("top(0, 2)", x.top(0, 2), 2);
        FurrowNames y = Due.parish("0;p91,p01;3-0");
        DUE.is("credit is always 0", y.top(1, 60), 1);
        for (int bad : new int[] {-1, 2, 6, LOW, HIGH}) {
            DUE.is("top(" + bad + ", 1)", y.top(bad, 1), BAD);
        }
        for (int bad : new int[] {-1, 0, 61, LOW, HIGH}) {
            DUE.is("top(0, " + bad + ")", y.top(0, bad), BAD);
        }
    }

    private static void image() {
        DUE.promise(26, "image");
        FurrowNames x = Due.parish("6;p21,r81,o51;10-3,4-8");
        DUE.is("restore()", x.restore(), NONE);
        x.marches(2);
        x.train(0);
        x.seed(44);
        x.sheet(1, 2, 7);
        x.type('1');
        DUE.is("image()", x.image(), 1);
        DUE.is("another parish, of the tape as it was", Due.read(x, "2;d52;1-1"), 1);
        DUE.is("12 stones", x.count(3), 12);
        x.type('1');
        x.type('2');
        x.drop(1);
        x.sheet(2, 3, 9);
        x.marches(9);
        x.man(4, 1, 1);
        x.name(7, 7);
        x.stones(1);
        x.seed(2);
        DUE.promise(27, "restore");
        for (int again = 0; again < 2; again++) {
            DUE.is("restore()", x.restore(), 1);
            int[] counts = {3, 2, 2, 6, 6, 14, 7, 3, 3};
            for (int what = 0; what < 9; what++) {
                DUE.is("count(" + what + ")", x.count(what), counts[what]);
            }
            DUE.is("hand", x.of(0, 1), 5);
            DUE.is("credit", x.of(1, 3), 10035);
            DUE.is("the draw", x.seed(3), 44);
            DUE.is("undo()", x.undo(), 2);
            DUE.is("hand", x.of(0, 1), 4);
            DUE.is("undo()", x.undo(), 1);
            DUE.is("March", x.count(2), 1);
            x.hire(0, 4);
            x.stones(9);
        }
        DUE.is("sheets are as they were", x.drop(1), -11);
        DUE.is("sheets are as they were", x.drop(2), 9);
        DUE.is("the tape, too", x.type('3'), 3);
        DUE.is("a parish leaves the image", Due.read(x, ""), -22);
        DUE.is("a parish", Due.read(x, "2;d52;1-1"), 1);
        DUE.is("restore()", x.restore(), 1);
        DUE.is("men", x.count(0), 3);
        x.man(0, 0, 1);
        DUE.is("a newer image", x.image(), 1);
        x.man(0, 0, 1);
        DUE.is("restore()", x.restore(), 1);
        DUE.is("men", x.count(0), 4);
        DUE.is("nothing to be undone", x.count(8), 0);
        imageOfAllPasts();
        FurrowNames y = new FurrowNames();
        DUE.is("of nobody", y.image(), 1);
        Due.read(y, "2;d52;1-1");
        DUE.is("restore()", y.restore(), 1);
        DUE.is("nobody", y.count(0), 0);
        DUE.is("stones", y.count(3), 6);
        for (int m = 0; m < 6; m++) {
            y.man(0, 0, 1);
        }
        DUE.is("the seventh", y.man(0, 0, 1), FULL);
    }

    private static void imageOfAllPasts() {
        for (int ahead = 0; ahead < 9; ahead++) {
            FurrowNames x = Due.parish("0;p91;3-0");
            for (int i = 0; i < ahead; i++) {
                x.hire(0, 2);
            }
            x.marches(8);
            x.image();
            x.undo();
            for (int i = 0; i < 9; i++) {
                x.hire(0, 1 + i % 4);
            }
            DUE.is("restore()", x.restore(), 1);
            for (int i = 7; i >= 0; i--) {
                DUE.is("undo()", x.undo(), i);
                DUE.is("March", x.count(2), i);
                DUE.is("oxen", x.of(0, 2), ahead == 0 ? 1 : 2);
            }
        }
    }
}

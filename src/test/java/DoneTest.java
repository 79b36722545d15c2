import java.math.BigInteger;

/** Promises 11 to 17: what is done, and undone. */
public final class DoneTest {
    private static final Due DUE = new Due("DoneTest");
    private static final int BAD = -1, NOT = -2, FULL = -3, NONE = -4;
    private static final int LOW = Integer.MIN_VALUE, HIGH = Integer.MAX_VALUE;

    public static void main(String[] args) {
        marches();
        marchesOfFew();
        lastMarch();
        train();
        hire();
        swap();
        drift();
        driftFull();
        undo();
        undoMarches();
        undoDrift();
        undoEight();
        seed();
        DUE.end();
    }

    private static void marches() {
        DUE.promise(11, "marches");
        // Off: 14, 8, 11. Man 2 takes a name that he values below 0.
        FurrowNames x = Due.parish("6;p21,r81,o51;10-3,4-8");
        DUE.is("marches(1)", x.marches(1), 6);
        int[] called = {NONE, 0, 1};
        int[] credit = {10000, 10017, 9988};
        int[] hand = {3, 8, 5};
        for (int m = 0; m < 3; m++) {
            DUE.is("called " + m, x.of(m, 4), called[m]);
            DUE.is("credit " + m, x.of(m, 3), credit[m]);
            DUE.is("hand " + m, x.of(m, 1), hand[m]);
        }
        DUE.is("debt 0", x.named(0, 1), 2);
        DUE.is("debt 1", x.named(1, 1), 7);
        DUE.is("worth 0", x.named(0, 0), 10);
        DUE.is("marches(1)", x.marches(1), 6);
        DUE.is("credit 1", x.of(1, 3), 10035);
        DUE.is("credit 2", x.of(2, 3), 9978);
        DUE.is("March", x.count(2), 2);
        // Hand of man 0 is 5 then: as far off as man 2, whose number is behind his.
        DUE.is("marches(2)", x.marches(2), 3);
        DUE.is("hand 0", x.of(0, 1), 5);
        DUE.is("hand 2", x.of(2, 1), 6);
        DUE.is("marches(1)", x.marches(1), 6);
        for (int bad : new int[] {0, -1, 41, LOW, HIGH}) {
            DUE.is("marches(" + bad + ")", x.marches(bad), BAD);
        }
        DUE.is("March", x.count(2), 5);
        DUE.is("marches(40)", x.marches(40) >= 0 ? 1 : 0, 1);
        DUE.is("March", x.count(2), 45);
        DUE.is("eight are known", x.count(8), 8);
    }

    private static void marchesOfFew() {
        DUE.promise(11, "marches of few");
        FurrowNames x = new FurrowNames();
        DUE.is("of nobody", x.marches(40), 0);
        DUE.is("a name", x.name(3, 0), 0);
        DUE.is("nobody takes it", x.marches(2), 0);
        DUE.is("it wears", x.named(0, 0), 1);
        DUE.is("to 0", x.marches(2), 0);
        DUE.is("at least", x.named(0, 0), 0);
        FurrowNames y = new FurrowNames();
        y.man(0, 7, 1);
        DUE.is("no name", y.marches(1), 0);
        DUE.is("hand", y.of(0, 1), 8);
        DUE.is("no name", y.marches(40), 0);
        DUE.is("hand is 9 at most", y.of(0, 1), 9);
        DUE.is("no credit", y.of(0, 3), 10000);
        DUE.is("called nothing", y.of(0, 4), NONE);
    }

    private static void lastMarch() {
        DUE.promise(11, "marches to 9999");
        FurrowNames x = Due.parish("0;h91;20-0");
        for (int i = 0; i < 249; i++) {
            x.marches(40);
        }
        DUE.is("March", x.count(2), 9960);
        DUE.is("marches(40)", x.marches(40), FULL);
        DUE.is("marches(41)", x.marches(41), BAD);
        DUE.is("drift(40)", x.drift(40), FULL);
        DUE.is("drift(0)", x.drift(0), BAD);
        DUE.is("the draw", x.seed(1), 1);
        DUE.is("marches(39)", x.marches(39), 1);
        DUE.is("March", x.count(2), 9999);
        DUE.is("credit", x.of(0, 3), 10000 + 49 * 9999);
        DUE.is("marches(1)", x.marches(1), FULL);
        DUE.is("drift(1)", x.drift(1), FULL);
        DUE.is("March", x.count(2), 9999);
        DUE.is("ahead goes on", x.ahead(0, 60, 1), 10000 + 49 * 10059);
        DUE.is("undo()", x.undo(), 7);
        DUE.is("March", x.count(2), 9998);
        DUE.is("drift(1)", x.drift(1), 0);
    }

    private static void train() {
        DUE.promise(12, "train");
        FurrowNames x = Due.parish("6;p71,p91;3-0");
        DUE.is("train(0)", x.train(0), 8);
        DUE.is("train(0)", x.train(0), 9);
        DUE.is("train(0)", x.train(0), NOT);
        DUE.is("train(1)", x.train(1), NOT);
        for (int bad : new int[] {-1, 2, 6, LOW, HIGH}) {
            DUE.is("train(" + bad + ")", x.train(bad), BAD);
        }
        DUE.is("what may be undone", x.count(8), 2);
        DUE.is("hand", x.of(0, 1), 9);
        DUE.is("off", x.of(0, 5), 7);
        DUE.is("undo()", x.undo(), 1);
        DUE.is("hand", x.of(0, 1), 8);
    }

    private static void hire() {
        DUE.promise(13, "hire");
        FurrowNames x = Due.parish("9;p51,p52;3-0");
        DUE.is("hire(0, 4)", x.hire(0, 4), 1);
        DUE.is("oxen", x.of(0, 2), 4);
        DUE.is("off", x.of(0, 5), 7);
        DUE.is("hire(0, 4)", x.hire(0, 4), 4);
        DUE.is("the same again is a hiring too", x.count(8), 2);
        DUE.is("hire(0, 1)", x.hire(0, 1), 4);
        for (int bad : new int[] {-1, 2, 6, LOW, HIGH}) {
            DUE.is("hire(" + bad + ", 1)", x.hire(bad, 1), BAD);
        }
        for (int bad : new int[] {0, -1, 5, LOW, HIGH}) {
            DUE.is("hire(0, " + bad + ")", x.hire(0, bad), BAD);
        }
        DUE.is("what may be undone", x.count(8), 3);
        DUE.is("undo()", x.undo(), 2);
        DUE.is("oxen", x.of(0, 2), 4);
        DUE.is("the other's", x.of(1, 2), 2);
    }

    private static void swap() {
        DUE.promise(14, "swap");
        FurrowNames x = Due.parish("6;p91,p81,p01;9-0,5-0");
        DUE.is("nobody is called", x.swap(0, 1), NOT);
        x.marches(1);
        DUE.is("swap(0, 1)", x.swap(0, 1), 1);
        DUE.is("called 0", x.of(0, 4), 1);
        DUE.is("called 1", x.of(1, 4), 0);
        DUE.is("who is 0", x.named(0, 2), 1);
        DUE.is("swap(1, 0)", x.swap(1, 0), 1);
        DUE.is("called 0", x.of(0, 4), 0);
        DUE.is("the first is called nothing", x.swap(2, 0), NOT);
        DUE.is("the other is called nothing", x.swap(0, 2), NOT);
        DUE.is("alike", x.swap(0, 0), BAD);
        DUE.is("alike, called nothing", x.swap(2, 2), BAD);
        for (int bad : new int[] {-1, 3, 6, LOW, HIGH}) {
            DUE.is("swap(" + bad + ", 0)", x.swap(bad, 0), BAD);
            DUE.is("swap(0, " + bad + ")", x.swap(0, bad), BAD);
            DUE.is("swap(2, " + bad + ")", x.swap(2, bad), BAD);
        }
        DUE.is("what may be undone", x.count(8), 3);
        DUE.is("credit is as it was", x.of(0, 3), 10009);
        DUE.is("undo()", x.undo(), 2);
        DUE.is("called 0", x.of(0, 4), 1);
        DUE.is("undo()", x.undo(), 1);
        DUE.is("called 0", x.of(0, 4), 0);
    }

    /** By 12 stones or fewer man 0 is ahead of man 1 while his hand is 0, by more man 1. */
    private static FurrowNames windy() {
        return Due.parish("3;p91,p04;20-0");
    }

    private static void drift() {
        DUE.promise(15, "drift");
        // From 1 the draws by 65536 are 16838, 5758, 10113, 17515, 31051: stones 17, 4, 12, 1, 13.
        FurrowNames x = windy();
        DUE.is("drift(1)", x.drift(1), 1);
        DUE.is("17 stones", x.of(1, 4), 0);
        DUE.is("stones are as they were", x.count(3), 3);
        DUE.is("the draw", x.seed(1103527590), 1103527590);
        DUE.is("drift(1)", x.drift(1), 1);
        DUE.is("4 stones", x.of(0, 4), 0);
        DUE.is("hand 1", x.of(1, 1), 1);
        DUE.is("drift(1)", x.drift(1), 1);
        DUE.is("12 stones: 13 off, and 12", x.of(1, 4), 0);
        DUE.is("drift(1)", x.drift(1), 1);
        DUE.is("1 stone", x.of(0, 4), 0);
        DUE.is("March", x.count(2), 4);
        DUE.is("what may be undone", x.count(8), 4);
        FurrowNames y = Due.parish("0;p91,p01,p81;20-0");
        DUE.is("two are called nothing", y.drift(40), 80);
        DUE.is("March", y.count(2), 40);
        for (int bad : new int[] {0, -1, 41, LOW, HIGH}) {
            DUE.is("drift(" + bad + ")", y.drift(bad), BAD);
        }
        DUE.is("of nobody", new FurrowNames().drift(40), 0);
        long draw = 1;
        for (int i = 0; i < 40; i++) {
            draw = (draw * 1103515245L + 12345L) % 2147483648L;
        }
        DUE.is("the draw", y.seed(0), draw);
    }

    private static void driftFull() {
        DUE.promise(15, "drift by a seed");
        FurrowNames x = windy();
        x.seed(0);
        // 12345 by 65536 is 0: no stones.
        DUE.is("drift(1)", x.drift(1), 1);
        DUE.is("no stones", x.of(0, 4), 0);
        DUE.is("the draw", x.seed(HIGH), 12345);
        // The greatest draw: as -1 by 31 bits.
        DUE.is("drift(1)", x.drift(1), 1);
        DUE.is("the draw", x.seed(5), 2147483648L - 1103515245L + 12345L);
        DUE.is("one name each", Due.parish("0;p91,p01;20-0,1-1").drift(5), 0);
        // Draws about a multiple of 65536: 12 and 13 stones, 20 and none.
        for (int times : new int[] {13, 13 + 21 * 1500, 21, 21 * 1560}) {
            for (int more = -1; more <= 1; more++) {
                FurrowNames y = windy();
                y.seed(seedOf(65536 * times + more));
                y.drift(1);
                int stones = (more < 0 ? times - 1 : times) % 21;
                DUE.is("the draw " + times + " times 65536 and " + more, y.named(0, 2), stones > 12 ? 1 : 0);
                DUE.is("the draw", y.seed(1), 65536 * times + more);
            }
        }
    }

    /** The draw behind which a draw comes. */
    private static int seedOf(int draw) {
        BigInteger all = BigInteger.ONE.shiftLeft(31);
        return BigInteger.valueOf(draw - 12345L).multiply(BigInteger.valueOf(1103515245).modInverse(all)).mod(all).intValue();
    }

    private static void undo() {
        DUE.promise(16, "undo");
        FurrowNames x = Due.parish("6;p21,r81,o51;10-3,4-8");
        DUE.is("undo()", x.undo(), NONE);
        x.seed(77);
        x.marches(1);
        x.seed(88);
        x.train(2);
        x.hire(2, 3);
        x.swap(1, 2);
        x.stones(11);
        x.seed(99);
        DUE.is("what may be undone", x.count(8), 4);
        DUE.is("undo()", x.undo(), 3);
        DUE.is("called 1", x.of(1, 4), 0);
        DUE.is("the draw, too", x.seed(5), 88);
        DUE.is("stones stay", x.count(3), 11);
        DUE.is("undo()", x.undo(), 2);
        DUE.is("oxen", x.of(2, 2), 1);
        DUE.is("the draw", x.seed(6), 88);
        DUE.is("undo()", x.undo(), 1);
        DUE.is("hand", x.of(2, 1), 5);
        DUE.is("undo()", x.undo(), 0);
        DUE.is("March", x.count(2), 0);
        DUE.is("who is called", x.count(4), 0);
        DUE.is("hand 0", x.of(0, 1), 2);
        DUE.is("credit 1", x.of(1, 3), 10000);
        DUE.is("debts", x.count(6), 11);
        DUE.is("worths", x.count(5), 14);
        DUE.is("the draw", x.seed(7), 77);
        DUE.is("undo()", x.undo(), NONE);
        DUE.is("stones still", x.count(3), 11);
    }

    private static void undoMarches() {
        DUE.promise(16, "undo: marches one by one");
        FurrowNames x = Due.parish("0;p91;5-9,1-0");
        x.marches(5);
        for (int i = 4; i >= 0; i--) {
            DUE.is("undo()", x.undo(), i);
            DUE.is("March", x.count(2), i);
            DUE.is("worth of the name that was not taken", x.named(0, 0), Math.max(0, 5 - i));
            DUE.is("credit", x.of(0, 3), 10000 + i);
        }
        DUE.is("undo()", x.undo(), NONE);
    }

    private static void undoDrift() {
        DUE.promise(16, "undo: a drift");
        FurrowNames x = windy();
        x.drift(3);
        DUE.is("undo()", x.undo(), 2);
        DUE.is("behind 4 stones", x.of(0, 4), 0);
        DUE.is("drift(1)", x.drift(1), 1);
        DUE.is("12 stones again", x.of(1, 4), 0);
        x.undo();
        x.undo();
        DUE.is("undo()", x.undo(), 0);
        DUE.is("the draw is as ahead of all", x.seed(1), 1);
    }

    private static void undoEight() {
        DUE.promise(16, "undo: eight are known");
        FurrowNames x = Due.parish("0;p01;5-9");
        x.hire(0, 3);
        for (int i = 0; i < 9; i++) {
            x.train(0);
        }
        DUE.is("count(8)", x.count(8), 8);
        for (int i = 7; i >= 0; i--) {
            DUE.is("undo()", x.undo(), i);
            DUE.is("hand", x.of(0, 1), i + 1);
        }
        DUE.is("undo()", x.undo(), NONE);
        DUE.is("hand", x.of(0, 1), 1);
        DUE.is("oxen", x.of(0, 2), 3);
        for (int i = 0; i < 3; i++) {
            x.train(0);
        }
        DUE.is("undo()", x.undo(), 2);
        x.hire(0, 2);
        DUE.is("undo()", x.undo(), 2);
        DUE.is("undo()", x.undo(), 1);
        DUE.is("hand", x.of(0, 1), 2);
    }

    private static void seed() {
        DUE.promise(17, "seed");
        FurrowNames x = new FurrowNames();
        DUE.is("seed(0)", x.seed(0), 1);
        DUE.is("seed(-1)", x.seed(-1), BAD);
        DUE.is("seed(LOW)", x.seed(LOW), BAD);
        DUE.is("seed(HIGH)", x.seed(HIGH), 0);
        DUE.is("seed(4)", x.seed(4), HIGH);
        x.marches(3);
        DUE.is("marches leave the draw", x.seed(9), 4);
        DUE.is("a seed is nothing to be undone", x.count(8), 3);
    }
}

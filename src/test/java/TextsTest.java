/** Promise 9, sentence by sentence: what of a text is a parish, where a fault's place is, what blanks are. */
public final class TextsTest {
    private static final Due DUE = new Due("TextsTest");
    private static final int BAD = -1, FULL = -3, NONE = -4;

    public static void main(String[] args) {
        emptyTape();
        stones();
        menOneToSix();
        kinds();
        hands();
        oxen();
        namesOneToSix();
        worths();
        debts();
        threeDigits();
        leadingNoughts();
        theEnd();
        firstLetter();
        blanksAnywhere();
        blanksEndANumber();
        blanksAndPlaces();
        eightyLetters();
        inPlaceOfAll();
        faultLeavesAll();
        tapeIsEmptyThen();
        besideTheModel();
        DUE.end();
    }

    private static void fault(String text, int place) {
        FurrowNames x = new FurrowNames();
        DUE.is("\"" + text + "\"", Due.read(x, text), -20 - place);
        DUE.is("\"" + text + "\": nobody came", x.count(0) + x.count(1), 0);
        DUE.is("\"" + text + "\": stones stay", x.count(3), 6);
    }

    private static FurrowNames good(String text, int men, int names) {
        FurrowNames x = new FurrowNames();
        DUE.is("\"" + text + "\"", Due.read(x, text), men);
        DUE.is("\"" + text + "\": men", x.count(0), men);
        DUE.is("\"" + text + "\": names", x.count(1), names);
        return x;
    }

    private static void emptyTape() {
        DUE.terms("FAULTS: the end: how many there are: none");
        fault("", 0);
        fault(" ", 1);
        fault("  ", 2);
    }

    private static void stones() {
        DUE.terms("a number 0 .. 20 (STONES)");
        for (int v = 0; v <= 99; v++) {
            if (v <= 20) {
                DUE.is("stones", good(v + ";p52;1-1", 1, 1).count(3), v);
            } else {
                fault(v + ";p52;1-1", 0);
                fault(v + "", 0);
                fault("  " + v + " ;p52;1-1", 2);
            }
        }
        fault(";p52;1-1", 0);
        fault("-1;p52;1-1", 0);
        fault("p52;1-1", 0);
        fault("+1;p52;1-1", 0);
    }

    private static void menOneToSix() {
        DUE.terms("1 to 6 MEN with , between");
        StringBuilder men = new StringBuilder();
        for (int m = 1; m <= 6; m++) {
            men.append(m == 1 ? "" : ",").append("p5").append(1 + m % 4);
            FurrowNames x = good("7;" + men + ";1-1", m, 1);
            DUE.is("the last man's oxen", x.of(m - 1, 2), 1 + m % 4);
            DUE.is("no man more", x.of(m, 0), BAD);
        }
        fault("7;;1-1", 2);
        fault("7; ;1-1", 3);
        fault("7;,p52;1-1", 2);
        fault("7;p52,,p52;1-1", 6);
        fault("7;p52,;1-1", 6);
        fault("7;p52p52;1-1", 5);
        // Behind the sixth only a ; can stand: the fault is at the letter behind it.
        fault("7;" + men + ",p52;1-1", 25);
        fault("7;" + men + ",", 25);
        fault("7;" + men + " ,p52;1-1", 26);
        fault("7;" + men + "p52;1-1", 25);
        fault("7;" + men, 25);
        fault("7;" + men + ";", 26);
    }

    private static void kinds() {
        DUE.terms("p r o h d (KINDS in this order)");
        for (int letter = 32; letter <= 126; letter++) {
            int kind = "prohd".indexOf(letter);
            String text = "7;" + (char) letter + "52;1-1";
            if (kind >= 0) {
                DUE.is("kind", good(text, 1, 1).of(0, 0), kind);
            } else {
                // A blank stands for nothing: then the 5 can't stand there.
                fault(text, letter == ' ' ? 3 : 2);
            }
        }
    }

    private static void hands() {
        DUE.terms("a digit (HAND)");
        for (int letter = 32; letter <= 126; letter++) {
            String text = "7;p" + (char) letter + "2;1-1";
            if (letter >= '0' && letter <= '9') {
                DUE.is("hand", good(text, 1, 1).of(0, 1), letter - '0');
            } else {
                // Behind a blank 2 is the hand; the ; is no oxen.
                fault(text, letter == ' ' ? 5 : 3);
            }
        }
    }

    private static void oxen() {
        DUE.terms("a digit 1 .. 4 (OXEN)");
        for (int letter = 32; letter <= 126; letter++) {
            String text = "7;p5" + (char) letter + ";1-1";
            if (letter >= '1' && letter <= '4') {
                DUE.is("oxen", good(text, 1, 1).of(0, 2), letter - '0');
            } else {
                fault(text, letter == ' ' ? 5 : 4);
            }
        }
        fault("7;p512;1-1", 5);
        fault("7;p52,p50;1-1", 8);
        fault("7;p52,p55;1-1", 8);
    }

    private static void namesOneToSix() {
        DUE.terms("1 to 6 NAMES with , between");
        StringBuilder names = new StringBuilder();
        for (int n = 1; n <= 6; n++) {
            names.append(n == 1 ? "" : ",").append(n).append("-").append(n + 1);
            FurrowNames x = good("7;p52;" + names, 1, n);
            DUE.is("the last name's debt", x.named(n - 1, 1), n + 1);
            DUE.is("no name more", x.named(n, 0), BAD);
        }
        fault("7;p52;", 6);
        fault("7;p52; ", 7);
        fault("7;p52", 5);
        fault("7;p52;,1-1", 6);
        fault("7;p52;1-1,", 10);
        fault("7;p52;1-1,,1-1", 10);
        fault("7;p52;1-1;", 9);
        fault("7;p52;1-1-1", 9);
        // Behind the sixth nothing can stand.
        fault("7;p52;" + names + ",1-1", 29);
        fault("7;p52;" + names + ",", 29);
        fault("7;p52;" + names + " ,", 30);
        fault("7;p52;" + names + ";", 29);
        DUE.is("blanks can", good("7;p52;" + names + "  ", 1, 6).count(5), 21);
    }

    private static void worths() {
        DUE.terms("a number 0 .. 20 (WORTH)");
        for (int v = 0; v <= 99; v++) {
            if (v <= 20) {
                DUE.is("worth", good("7;p52;" + v + "-1", 1, 1).named(0, 0), v);
                DUE.is("worth of the second", good("7;p52;3-3," + v + "-1", 1, 2).named(1, 0), v);
            } else {
                fault("7;p52;" + v + "-1", 6);
                fault("7;p52;3-3," + v + "-1", 10);
                fault("7;p52;3-3, " + v, 11);
            }
        }
        fault("7;p52;-1-1", 6);
        fault("7;p52;p-1", 6);
    }

    private static void debts() {
        DUE.terms("then - and a number 0 .. 20 (DEBT)");
        for (int v = 0; v <= 99; v++) {
            if (v <= 20) {
                DUE.is("debt", good("7;p52;1-" + v, 1, 1).named(0, 1), v);
                DUE.is("debt of the second", good("7;p52;3-3,1-" + v, 1, 2).named(1, 1), v);
            } else {
                fault("7;p52;1-" + v, 8);
                fault("7;p52;3-3,1-" + v, 12);
                fault("7;p52;1- " + v + " ,", 9);
            }
        }
        fault("7;p52;1-", 8);
        fault("7;p52;1", 7);
        fault("7;p52;1,1-1", 7);
        fault("7;p52;1+1", 7);
        fault("7;p52;1--1", 8);
        fault("7;p52;1-,", 8);
    }

    /** A third digit can't stand there; but a number above 20 is at fault before it. */
    private static void threeDigits() {
        DUE.terms("Numbers have 1 or 2 digits");
        for (int v = 0; v <= 99; v++) {
            String two = v < 10 ? "0" + v : "" + v;
            for (char third : "059".toCharArray()) {
                fault(two + third + ";p52;1-1", v <= 20 ? 2 : 0);
                fault("7;p52;" + two + third + "-1", v <= 20 ? 8 : 6);
                fault("7;p52;1-" + two + third, v <= 20 ? 10 : 8);
            }
        }
        fault("000;p52;1-1", 2);
        fault("0000", 2);
        fault("200", 2);
    }

    private static void leadingNoughts() {
        DUE.terms("Numbers have 1 or 2 digits: 0 in front");
        for (int v = 0; v <= 9; v++) {
            FurrowNames x = good("0" + v + ";p52;0" + v + "-0" + (9 - v), 1, 1);
            DUE.is("stones", x.count(3), v);
            DUE.is("worth", x.named(0, 0), v);
            DUE.is("debt", x.named(0, 1), 9 - v);
        }
    }

    private static void theEnd() {
        DUE.terms("FAULTS: the end: how many there are");
        String text = "10;p52,r43;12-4,18-15";
        // Cut anywhere it is no parish, but where a name is whole: 12-4, 18-1 and all of it.
        for (int cut = 0; cut <= text.length(); cut++) {
            boolean whole = cut == 15 || cut == 20 || cut == 21;
            FurrowNames x = new FurrowNames();
            DUE.is("cut at " + cut, Due.read(x, text.substring(0, cut)), whole ? 2 : -20 - cut);
            DUE.is("men", x.count(0), whole ? 2 : 0);
        }
        for (int cut = 0; cut < 15; cut++) {
            // Blanks behind: the end is behind them.
            fault(text.substring(0, cut) + "   ", cut + 3);
        }
    }

    private static void firstLetter() {
        DUE.terms("FAULTS: the place of the first letter that can't stand there");
        String text = "9;p52,r43;7-4,8-5";
        // What may stand at each place in place of what does, so that the fault, if any, is behind it.
        String[] may = {"0123456789", ";0123456789", "prohd", "0123456789", "1234", ",;", "prohd", "0123456789", "1234", ";,",
            "0123456789", "-0123456789", "0123456789", ",0123456789", "0123456789", "-0123456789", "0123456789"};
        for (int at = 0; at < text.length(); at++) {
            for (char letter = '!'; letter <= '~'; letter++) {
                if (may[at].indexOf(letter) < 0) {
                    fault(text.substring(0, at) + letter + text.substring(at + 1), at);
                    fault(text.substring(0, at) + letter, at);
                    // The first of two.
                    fault(text.substring(0, at) + letter + "~", at);
                }
            }
        }
    }

    private static void blanksAnywhere() {
        DUE.terms("blanks count for nothing");
        String text = "9;p52,r43;7-14,8-5";
        for (int at = 0; at <= text.length(); at++) {
            for (String blanks : new String[] {" ", "   "}) {
                String with = text.substring(0, at) + blanks + text.substring(at);
                if (at == 13) {
                    // Within 14 they end the number: the 4 can't stand there.
                    fault(with, 13 + blanks.length());
                } else {
                    FurrowNames x = good(with, 2, 2);
                    DUE.is("stones", x.count(3), 9);
                    DUE.is("hand", x.of(0, 1), 5);
                    DUE.is("oxen", x.of(1, 2), 3);
                    DUE.is("worths", x.count(5), 15);
                    DUE.is("debts", x.count(6), 19);
                }
            }
        }
        good(" 9 ; p 5 2 , r 4 3 ; 7 - 14 , 8 - 5 ", 2, 2);
    }

    private static void blanksEndANumber() {
        DUE.terms("blanks .. but end a number");
        fault("1 0;p52;1-1", 2);
        fault("2 1;p52;1-1", 2);
        fault("1  0;p52;1-1", 3);
        fault("10 0;p52;1-1", 3);
        fault("7;p52;1 0-1", 8);
        fault("7;p52;1-1 0", 10);
        fault("7;p52;1-1 0,1-1", 10);
        fault("7;p52;1-10 0", 11);
        DUE.is("but not a hand and oxen, which are a digit each", good("7;p5 2;1-1", 1, 1).of(0, 2), 2);
    }

    private static void blanksAndPlaces() {
        DUE.terms("FAULTS: the first letter (behind blanks)");
        fault("  x", 2);
        fault("  21;p52;1-1", 2);
        fault("7  x", 3);
        fault("7;  x", 4);
        fault("7;p  x", 5);
        fault("7;p5  0", 6);
        fault("7;p52  x", 7);
        fault("7;p52;  x", 8);
        fault("7;p52;  21-1", 8);
        fault("7;p52;1  x", 9);
        fault("7;p52;1-  x", 10);
        fault("7;p52;1-  21", 10);
        fault("7;p52;1-1  x", 11);
        fault("7;p52;1-1,  x", 12);
        fault("7;p52;1-1,  ", 12);
    }

    private static void eightyLetters() {
        DUE.terms("FULL: 80");
        String longest = "20;p52,p52,p52,p52,p52,p54;20-20,20-20,20-20,20-20,20-20,20-20";
        DUE.is("the longest without blanks", longest.length(), 62);
        String blanks = " ".repeat(18);
        DUE.is("80 letters", good(blanks + longest, 6, 6).of(5, 2), 4);
        DUE.is("80 letters", good(longest + blanks, 6, 6).named(5, 1), 20);
        DUE.is("81: the last is not taken", good(blanks + " " + longest, 6, 6).named(5, 1), 2);
        DUE.is("82: the last two are not", Due.read(new FurrowNames(), blanks + "  " + longest), -100);
        DUE.is("81: a blank is not taken", good(longest + blanks + " ", 6, 6).named(5, 1), 20);
        DUE.is("81: nor an x", good(longest + blanks + "x", 6, 6).named(5, 1), 20);
        DUE.is("80: an x is", Due.read(new FurrowNames(), longest + blanks.substring(1) + "x"), -20 - 79);
        DUE.is("80 blanks", Due.read(new FurrowNames(), " ".repeat(80)), -100);
        FurrowNames x = new FurrowNames();
        for (int i = 1; i <= 80; i++) {
            DUE.is("letter", x.type('9'), i);
        }
        DUE.is("letter 81", x.type('9'), FULL);
        DUE.is("letter 82", x.type('9'), FULL);
        DUE.is("99", x.parish(), -20);
        DUE.is("the tape is empty then", x.type('9'), 1);
    }

    private static void inPlaceOfAll() {
        DUE.terms("in place of all MEN, NAMES, of STONES; MARCH 0, nobody is CALLED anything, no CREDIT (THE DRAW stays)");
        FurrowNames x = good("20;p91,p81,p71,p61,p51,p41;1-20,2-20,3-20,4-20,5-20,6-20", 6, 6);
        x.drift(3);
        int draw = x.seed(5);
        x.seed(draw);
        x.image();
        DUE.is("another", Due.read(x, "0;d11;7-0"), 1);
        int[] counts = {1, 1, 0, 0, 0, 7, 0, 1, 0};
        for (int what = 0; what < counts.length; what++) {
            DUE.is("count(" + what + ")", x.count(what), counts[what]);
        }
        DUE.is("no credit", x.of(0, 3), 10000);
        DUE.is("called nothing", x.of(0, 4), NONE);
        DUE.is("off in March 0", x.of(0, 5), 14);
        DUE.is("the draw stays", x.seed(draw), draw);
        DUE.is("no man 1", x.of(1, 0), BAD);
        DUE.is("no name 1", x.named(1, 0), BAD);
        DUE.is("nothing to be undone", x.undo(), NONE);
        DUE.is("the image stays", x.restore(), 1);
        DUE.is("six men", x.count(0), 6);
        DUE.is("who is called", x.count(4), 63);
    }

    private static void faultLeavesAll() {
        DUE.terms("A FAULT (all else stays)");
        String[] texts = {"", "x", "21", "3;p5", "3;p11,r11,o11;1-1,2-", "3;p11;1-1,2-2x", "3;p11;1-1,2-21", " "};
        for (String text : texts) {
            FurrowNames x = good("20;p91,p81;1-20,2-20,3-20", 2, 3);
            x.marches(2);
            x.seed(9);
            DUE.is("a fault", Due.read(x, text) <= -20 ? 1 : 0, 1);
            // The first name, which nobody takes, wears from 1 to 0; the debts of the others from 20 to 18.
            int[] counts = {2, 3, 2, 20, 3, 5, 56, 3, 2};
            for (int what = 0; what < counts.length; what++) {
                DUE.is("\"" + text + "\": count(" + what + ")", x.count(what), counts[what]);
            }
            DUE.is("hand", x.of(1, 1), 8);
            DUE.is("oxen", x.of(1, 2), 1);
            DUE.is("the draw", x.seed(1), 9);
        }
    }

    private static void tapeIsEmptyThen() {
        DUE.terms("THE TAPE, which is empty then");
        FurrowNames x = new FurrowNames();
        DUE.is("a parish", Due.read(x, "7;p52;1-1"), 1);
        DUE.is("empty", x.type('7'), 1);
        DUE.is("a fault", x.parish(), -21);
        DUE.is("empty", x.type('7'), 1);
        DUE.is("a fault", x.parish(), -21);
        DUE.is("empty", x.parish(), -20);
        DUE.is("empty", x.parish(), -20);
        DUE.is("nothing of an older text is read", Due.read(x, "7;p52;1-15") * 100 + Due.read(x, "7;p52;1-1"), 101);
        DUE.is("debt", x.named(0, 1), 1);
    }

    /** One letter put in, taken out or in place of another, everywhere: the class beside the model. */
    private static void besideTheModel() {
        DUE.terms("a TEXT with one letter more, less, another");
        String[] texts = {"20;p52,h91;0-20,12-4", "7;d14,r03,o72,p51,p52,p53;1-1,12-2", "6;p52;1-1,2-2,3-3,4-4,5-5,16-6"};
        String letters = " 0123459;,-prohdx";
        for (String text : texts) {
            for (int at = 0; at <= text.length(); at++) {
                for (char letter : letters.toCharArray()) {
                    same(text.substring(0, at) + letter + text.substring(at));
                    same(at == text.length() ? text : text.substring(0, at) + letter + text.substring(at + 1));
                }
                same(at == text.length() ? text : text.substring(0, at) + text.substring(at + 1));
            }
        }
    }

    private static void same(String text) {
        FurrowNames x = new FurrowNames();
        Model y = new Model();
        for (int i = 0; i < text.length(); i++) {
            y.type(text.charAt(i));
        }
        DUE.is("\"" + text + "\"", Due.read(x, text), y.parish());
        for (int what : new int[] {0, 1, 3, 5, 6, 7}) {
            DUE.is("\"" + text + "\": count(" + what + ")", x.count(what), y.count(what));
        }
    }
}

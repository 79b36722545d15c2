/** What a test of the project counts with: every answer that is not the one that is due is printed. */
final class Due {
    private final String test;
    private int asked = 0;
    private int wrong = 0;
    private String promise = "";

    Due(String test) {
        this.test = test;
    }

    void promise(int number, String what) {
        promise = "promise " + number + " (" + what + ")";
    }

    /** A sentence of the document's terms. */
    void terms(String sentence) {
        promise = "\"" + sentence + "\"";
    }

    void is(String call, long got, long want) {
        asked++;
        if (got != want) {
            wrong++;
            if (wrong <= 40) {
                System.out.println(test + ", " + promise + ": " + call + " answered " + got + ", due is " + want);
            }
        }
    }

    void end() {
        System.out.println(test + ": " + asked + " answers, " + wrong + " not as due");
        if (wrong != 0) {
            System.exit(1);
        }
    }

    /** A new object whose parish is a text. */
    static FurrowNames parish(String text) {
        FurrowNames x = new FurrowNames();
        int men = read(x, text);
        if (men < 1) {
            throw new IllegalStateException("not a parish: " + text + ": " + men);
        }
        return x;
    }

    /** What parish() answers to a text. */
    static int read(FurrowNames x, String text) {
        for (int i = 0; i < text.length(); i++) {
            x.type(text.charAt(i));
        }
        return x.parish();
    }
}

/** Tells every answer that is not the one that is due, and ends the test with it. */
final class Due {
    static final long BEYOND = -1000000001;
    static final long FULL = -1000000002;
    static final long KIND = -1000000003;
    static final long NONE = -1000000004;
    static final long STATE = -1000000005;
    static final long MISSING = -1000000006;
    static final long SIZE = -1000000007;

    private final String test;
    private int asked = 0;
    private int wrong = 0;

    Due(String test) {
        this.test = test;
    }

    void is(String what, long got, long want) {
        asked++;
        if (got != want) {
            wrong++;
            System.out.println(test + ": " + what + " answered " + got + ", due is " + want);
        }
    }

    void end() {
        System.out.println(test + ": " + asked + " asked, " + wrong + " wrong");
        if (wrong != 0) {
            System.exit(1);
        }
    }

    /** THE TAPE gets the signs of a text, a byte each. */
    static void feed(ShakeLetters x, String signs) {
        for (int i = 0; i < signs.length(); i++) {
            x.feed(signs.charAt(i), 1);
        }
    }

    /** Reads signs as a TEXT from an empty TAPE, and leaves it empty: what text() answered. */
    static int read(ShakeLetters x, String signs, int from) {
        x.wipe();
        feed(x, signs);
        int answer = x.text(from);
        x.wipe();
        return answer;
    }
}

/** The boundary cases of promises 8 to 19: letters. */
public final class EdgesLettersTest {
    private static final Edges E = new Edges("EdgesLettersTest");
    private static final String WORLD = Edges.WORLD;
    private static final String FULL_OF_LETTERS =
            Edges.join("town(0)", Edges.times(30, "letter(0, 0, 0, -1, 0)"));
    /** LETTERS 0 to 5 of kinds 0 to 5. */
    private static final String KINDS = Edges.join("town(0)", "letter(0, 0, 0, -1, 0)", "letter(1, 0, 0, -1, 0)",
            "letter(2, 0, 0, -1, 0)", "letter(3, 0, 0, 0, 0)", "letter(4, 0, 0, -1, 5)", "letter(5, 0, 0, -1, 0)");

    public static void main(String[] args) {
        letterKindAndAbout();
        letterWhen();
        letterFrom();
        letterLate();
        letterFull();
        as();
        told();
        lose();
        reread();
        counts();
        countsOfCopies();
        lets();
        root();
        tree();
        days();
        day();
        evening();
        E.end(8, 19);
    }

    private static void letterKindAndAbout() {
        E.promise(8, "letter");
        E.edge("the first kind", "town(0)", "letter(0, 0, 0, -1, 0) = 0", "told(0, 0) = 0");
        E.edge("the last kind", "town(0)", "letter(5, 0, 0, -1, 0) = 0", "told(0, 0) = 5");
        E.each("kind % is none", "-1 6 MIN MAX", WORLD, "letter(%, 0, 0, -1, 0) = BEYOND");
        E.edge("the first TOWN and WORD", "town(0)", "letter(0, 0, 0, -1, 0) = 0", "told(0, 1) = 0", "told(0, 2) = 0");
        E.edge("the last TOWN and WORD", Edges.times(16, "town(0)"), "letter(0, 1515, 0, -1, 0) = 0", "told(0, 1) = 15",
                "told(0, 2) = 15");
        E.edge("TOWN 0 where none is yet", "letter(0, 0, 0, -1, 0) = BEYOND");
        E.edge("TOWN 1 where one is", "town(0)", "letter(0, 100, 0, -1, 0) = BEYOND");
        E.edge("TOWN 16 where all are there", Edges.times(16, "town(0)"), "letter(0, 1600, 0, -1, 0) = BEYOND");
        E.each("about % (TOWNS 0 to 3 are there)", "400 -1 -100 -85 MIN MAX", WORLD, "letter(0, %, 0, -1, 0) = BEYOND");
        E.each("WORD 16 and above: about %", "16 99 116 199 399", WORLD, "letter(0, %, 0, -1, 0) = BEYOND");
    }

    private static void letterWhen() {
        E.edge("the first DATE and RECKONING", "town(0)", "letter(0, 0, 0, -1, 0) = 0", "told(0, 3) = 0",
                "told(0, 4) = 0");
        E.edge("the last DATE and RECKONING", "town(0)", "letter(0, 0, 9993, -1, 0) = 0", "told(0, 3) = 999",
                "told(0, 4) = 3");
        E.edge("a RECKONING that isn't told", "town(0)", "letter(0, 0, 9994, -1, 0) = 0", "told(0, 3) = 999",
                "told(0, 4) = 4");
        E.each("RECKONING above 4: when %", "5 9 15 9995 9999", WORLD, "letter(0, 0, %, -1, 0) = BEYOND");
        E.each("DATE above 999: when %", "10000 10004 MAX", WORLD, "letter(0, 0, %, -1, 0) = BEYOND");
        E.each("DATE below 0: when %", "-1 -6 -10 -9990 MIN", WORLD, "letter(0, 0, %, -1, 0) = BEYOND");
    }

    private static void letterFrom() {
        for (int kind : new int[] {0, 1, 4, 5}) {
            String call = "letter(" + kind + ", 0, 0, %, 0)";
            E.each("kind " + kind + " is from none: %", "-1", WORLD, call + " = 8", "root(8) = 8");
            E.each("kind " + kind + " is from %", "-2 0 7 8 MIN MAX", WORLD, call + " = BEYOND");
        }
        E.edge("HEARD from none", WORLD, "letter(2, 0, 0, -1, 0) = 8", "told(8, 7) = -1");
        E.edge("HEARD from the first", WORLD, "letter(2, 0, 0, 0, 0) = 8", "told(8, 7) = 0");
        E.edge("HEARD from the latest", WORLD, "letter(2, 0, 0, 7, 0) = 8", "told(8, 7) = 7");
        E.each("HEARD from % (0 to 7 are there)", "-2 8 9 MIN MAX", WORLD, "letter(2, 0, 0, %, 0) = BEYOND");
        E.edge("HEARD from itself as the first", "town(0)", "letter(2, 0, 0, 0, 0) = BEYOND");
        E.edge("COPIED from the first", WORLD, "letter(3, 0, 0, 0, 0) = 8", "told(8, 7) = 0");
        E.edge("COPIED from the latest", WORLD, "letter(3, 0, 0, 7, 0) = 8", "told(8, 7) = 7");
        E.each("COPIED from % (0 to 7 are there)", "-1 -2 8 9 MIN MAX", WORLD, "letter(3, 0, 0, %, 0) = BEYOND");
        E.edge("COPIED from itself as the first", "town(0)", "letter(3, 0, 0, 0, 0) = BEYOND");
        E.edge("COPIED from a TORN one", WORLD, "letter(3, 0, 0, 5, 0) = 8", "told(8, 7) = 5");
        E.edge("COPIED from a LOST one", WORLD, "letter(3, 0, 0, 6, 0) = 8", "told(8, 7) = 6");
        E.edge("the last one from the one before it", "town(0)", Edges.times(29, "letter(0, 0, 0, -1, 0)"),
                "letter(3, 0, 0, 28, 0) = 29", "told(29, 7) = 28");
    }

    private static void letterLate() {
        for (int kind : new int[] {0, 1, 2, 3, 5}) {
            String call = "letter(" + kind + ", 0, 0, " + (kind == 3 ? 0 : -1) + ", %)";
            E.each("kind " + kind + " is late by none: %", "0", WORLD, call + " = 8", "told(8, 5) = 5");
            E.each("kind " + kind + " is late by the most: %", "990", WORLD, call + " = 8", "told(8, 5) = 104");
            E.each("kind " + kind + " is late by 100 and more: %", "1000 MAX", WORLD, call + " = BEYOND");
            E.each("kind " + kind + " is late by less than none: %", "-1 -10 -990 MIN", WORLD, call + " = BEYOND");
            E.each("kind " + kind + " has no LEAN: %", "1 5 991 995", WORLD, call + " = BEYOND");
        }
        E.edge("BENT by the least LEAN", WORLD, "letter(4, 0, 0, -1, 0) = 8", "told(8, 8) = 0", "told(8, 5) = 5");
        E.edge("BENT by the greatest LEAN", WORLD, "letter(4, 0, 0, -1, 5) = 8", "told(8, 8) = 5", "told(8, 5) = 5");
        E.edge("BENT and late by the most", WORLD, "letter(4, 0, 0, -1, 995) = 8", "told(8, 8) = 5",
                "told(8, 5) = 104");
        E.each("BENT by a LEAN above 5: late %", "6 9 16 996 999", WORLD, "letter(4, 0, 0, -1, %) = BEYOND");
        E.each("BENT and late by 100 and more: late %", "1000 1005 MAX", WORLD, "letter(4, 0, 0, -1, %) = BEYOND");
        E.each("BENT and late by less than none: late %", "-1 -5 -10 MIN", WORLD, "letter(4, 0, 0, -1, %) = BEYOND");
        E.edge("KNOWN from a DAY behind the last one on", Edges.times(24, "tick(400)"), "tick(399)", "town(0)",
                "letter(0, 0, 0, -1, 990) = 0", "letter(0, 0, 0, -1, 0) = 1", "told(0, 5) = 10098", "counts(0) = 0",
                "told(1, 5) = 9999", "counts(1) = 1");
    }

    private static void letterFull() {
        E.edge("none there yet", "town(0)", "look(1) = 0", "letter(0, 0, 0, -1, 0) = 0", "look(1) = 1");
        E.edge("one there", "town(0)", "letter(0, 0, 0, -1, 0)", "letter(0, 0, 0, -1, 0) = 1", "look(1) = 2");
        E.edge("twenty-nine there: the last that can be", "town(0)", Edges.times(29, "letter(0, 0, 0, -1, 0)"),
                "letter(4, 7, 123, -1, 25) = 29", "look(1) = 30", "told(29, 0) = 4", "told(29, 1) = 0", "told(29, 2) = 7",
                "told(29, 3) = 12", "told(29, 4) = 3", "told(29, 5) = 2", "told(29, 6) = 0", "told(29, 8) = 5");
        E.edge("full: one more", FULL_OF_LETTERS, "letter(4, 7, 123, -1, 25) = FULL", "look(1) = 30");
        E.edge("full: a COPIED one more", FULL_OF_LETTERS, "letter(3, 9, 994, 29, 990) = FULL");
        E.edge("full: kind is asked before FULL", FULL_OF_LETTERS, "letter(6, 0, 0, -1, 0) = BEYOND");
        E.edge("full: TOWN is asked before FULL", FULL_OF_LETTERS, "letter(0, 100, 0, -1, 0) = BEYOND");
        E.edge("full: WORD is asked before FULL", FULL_OF_LETTERS, "letter(0, 16, 0, -1, 0) = BEYOND");
        E.edge("full: DATE is asked before FULL", FULL_OF_LETTERS, "letter(0, 0, 10000, -1, 0) = BEYOND");
        E.edge("full: RECKONING is asked before FULL", FULL_OF_LETTERS, "letter(0, 0, 5, -1, 0) = BEYOND");
        E.edge("full: from is asked before FULL", FULL_OF_LETTERS, "letter(0, 0, 0, 0, 0) = BEYOND",
                "letter(3, 0, 0, 30, 0) = BEYOND");
        E.edge("full: late is asked before FULL", FULL_OF_LETTERS, "letter(0, 0, 0, -1, 1) = BEYOND",
                "letter(0, 0, 0, -1, 1000) = BEYOND");
        E.edge("a refused one takes no number", "town(0)", "letter(0, 16, 0, -1, 0) = BEYOND",
                "letter(0, 15, 0, -1, 0) = 0");
        E.edge("it is HERE at first", FULL_OF_LETTERS, "told(0, 6) = 0", "told(29, 6) = 0", "look(3) = 0");
    }

    private static void as() {
        E.promise(9, "as");
        E.noLetter("as(%, 0)");
        E.noLetter("as(%, 5)");
        E.each("kind % is none", "-1 6 MIN MAX", WORLD, "as(0, %) = BEYOND", "as(7, %) = BEYOND");
        for (int letter = 0; letter < 6; letter++) {
            for (int kind = 0; kind < 6; kind++) {
                boolean is = kind == 0 || kind == letter || (letter == 3 && kind == 2);
                E.edge("one of kind " + letter + " as one of kind " + kind, KINDS,
                        "as(" + letter + ", " + kind + ") = " + (is ? String.valueOf(letter) : "KIND"));
            }
        }
        E.edge("BEYOND is asked before KIND: no such kind", WORLD, "as(0, 6) = BEYOND");
        E.edge("BEYOND is asked before KIND: no such LETTER", WORLD, "as(8, 3) = BEYOND");
        E.edge("neither LETTER nor kind", WORLD, "as(8, 6) = BEYOND");
        E.edge("the last LETTER", FULL_OF_LETTERS, "as(29, 0) = 29", "as(29, 1) = KIND");
        E.edge("a LOST one", WORLD, "as(6, 0) = 6", "as(2, 2) = 2");
    }

    private static void told() {
        E.promise(10, "told");
        E.noLetter("told(%, 0)");
        E.noLetter("told(%, 7)");
        E.noLetter("told(%, 8)");
        E.each("what % is none", "-1 9 MIN MAX", WORLD, "told(0, %) = BEYOND", "told(4, %) = BEYOND");
        E.each("which a LETTER of kind % is from: KIND", "0 1 4 5", KINDS, "told(%, 7) = KIND");
        E.edge("which a HEARD one is from", KINDS, "letter(2, 0, 0, 5, 0)", "told(2, 7) = -1", "told(6, 7) = 5");
        E.edge("which a COPIED one is from", KINDS, "told(3, 7) = 0");
        E.each("LEAN of a LETTER of kind %: KIND", "0 1 2 3 5", KINDS, "told(%, 8) = KIND");
        E.edge("LEAN of a BENT one", KINDS, "told(4, 8) = 5");
        E.each("all that each kind has: LETTER %", "0 1 2 3 4 5", KINDS, "told(%, 0) = %", "told(%, 1) = 0",
                "told(%, 2) = 0", "told(%, 3) = 0", "told(%, 4) = 0", "told(%, 5) = 0", "told(%, 6) = 0");
        E.edge("BEYOND is asked before KIND: another what", WORLD, "told(0, 9) = BEYOND");
        E.edge("BEYOND is asked before KIND: no such LETTER", WORLD, "told(8, 8) = BEYOND", "told(-1, 7) = BEYOND");
        E.edge("the greatest of all", Edges.times(24, "tick(400)"), "tick(399)", Edges.times(16, "town(0)"),
                "letter(4, 1515, 9994, -1, 995)", "told(0, 0) = 4", "told(0, 1) = 15", "told(0, 2) = 15",
                "told(0, 3) = 999", "told(0, 4) = 4", "told(0, 5) = 10098", "told(0, 6) = 0", "told(0, 7) = KIND",
                "told(0, 8) = 5");
        E.edge("LOST and HERE", WORLD, "told(6, 6) = 1", "lose(6, false)", "told(6, 6) = 0");
    }

    private static void lose() {
        E.promise(11, "lose");
        E.noLetter("lose(%, true)");
        E.noLetter("lose(%, false)");
        E.edge("HERE already", KINDS, "lose(0, false) = 0", "told(0, 6) = 0");
        E.edge("LOST is new", KINDS, "lose(0, true) = 1", "told(0, 6) = 1");
        E.edge("LOST already", KINDS, "lose(0, true)", "lose(0, true) = 0", "told(0, 6) = 1");
        E.edge("HERE is new", KINDS, "lose(0, true)", "lose(0, false) = 1", "told(0, 6) = 0", "lose(0, false) = 0");
        E.edge("the first LETTER alone", FULL_OF_LETTERS, "lose(0, true) = 1", "look(3) = 1", "told(0, 6) = 1",
                "told(1, 6) = 0");
        E.edge("the last LETTER alone", FULL_OF_LETTERS, "lose(29, true) = 1", "look(3) = 1", "told(29, 6) = 1",
                "told(28, 6) = 0");
        E.edge("a TORN one", KINDS, "lose(5, true) = 1", "look(3) = 1");
        E.edge("one that isn't KNOWN yet", "town(0)", "letter(0, 0, 0, -1, 10)", "lose(0, true) = 1", "tick(1)",
                "counts(0) = 0");
    }

    private static void reread() {
        E.promise(12, "reread");
        E.noLetter("reread(%, 0)");
        E.edge("the first WORD", KINDS, "reread(0, 7)", "reread(0, 0) = 7", "told(0, 2) = 0");
        E.edge("the last WORD", KINDS, "reread(0, 15) = 0", "told(0, 2) = 15", "reread(0, 0) = 15");
        E.each("WORD % is none", "-1 16 MIN MAX", WORLD, "reread(0, %) = BEYOND");
        E.edge("the same WORD", KINDS, "reread(0, 0) = 0", "told(0, 2) = 0");
        E.edge("the last LETTER", FULL_OF_LETTERS, "reread(29, 3) = 0", "told(29, 2) = 3", "told(28, 2) = 0");
        E.edge("a LOST one", WORLD, "reread(6, 3) = STATE", "told(6, 2) = 15");
        E.edge("a LOST one with its own WORD", WORLD, "reread(6, 15) = STATE");
        E.edge("one that is HERE again", WORLD, "lose(6, false)", "reread(6, 3) = 15");
        E.each("BEYOND is asked before STATE: WORD %", "-1 16", WORLD, "reread(6, %) = BEYOND");
        E.edge("neither LETTER nor WORD", WORLD, "reread(8, 16) = BEYOND");
        E.edge("a TORN one", KINDS, "reread(5, 3) = 0", "told(5, 2) = 3");
        E.edge("one that isn't KNOWN yet", "town(0)", "letter(0, 5, 0, -1, 990)", "reread(0, 3) = 5");
    }

    private static void counts() {
        E.promise(13, "counts");
        E.noLetter("counts(%)");
        E.each("HERE, KNOWN, of kind %", "0 1 2 4", KINDS, "counts(%) = 1");
        E.edge("TORN", KINDS, "counts(5) = 0");
        E.edge("KNOWN from the open DAY on", "town(0)", "letter(0, 0, 0, -1, 0)", "counts(0) = 1");
        E.edge("KNOWN from the next DAY on", "town(0)", "letter(0, 0, 0, -1, 10)", "counts(0) = 0", "tick(1)",
                "counts(0) = 1", "tick(1)", "counts(0) = 1");
        E.edge("KNOWN as late as can be", "town(0)", "letter(0, 0, 0, -1, 990)", "tick(98)", "counts(0) = 0", "tick(1)",
                "counts(0) = 1");
        E.edge("LOST, then HERE", KINDS, "lose(0, true)", "counts(0) = 0", "lose(0, false)", "counts(0) = 1");
        E.edge("the last LETTER", FULL_OF_LETTERS, "counts(29) = 1", "lose(29, true)", "counts(29) = 0",
                "counts(28) = 1");
        E.edge("HEARD from one that COUNTS", "town(0)", "letter(0, 0, 0, -1, 0)", "letter(2, 0, 0, 0, 0)",
                "counts(1) = 1", "lose(0, true)", "counts(1) = 1");
        E.edge("HEARD behind another HEARD one from the same", "town(0)", "letter(0, 0, 0, -1, 0)",
                "letter(2, 0, 0, 0, 0)", "letter(2, 0, 0, 0, 0)", "lose(0, true)", "counts(1) = 1", "counts(2) = 1");
    }

    private static void countsOfCopies() {
        String two = Edges.join("town(0)", "letter(0, 0, 0, -1, 0)", "letter(3, 0, 0, 0, 0)", "letter(3, 0, 0, 0, 0)");
        E.edge("COPIED: that which it is from COUNTS", two, "counts(0) = 1", "counts(1) = 0", "counts(2) = 0");
        E.edge("COPIED: that is LOST", two, "lose(0, true)", "counts(1) = 1", "counts(2) = 0");
        E.edge("COPIED: that and the lesser one are LOST", two, "lose(0, true)", "lose(1, true)", "counts(1) = 0",
                "counts(2) = 1");
        E.edge("COPIED: only the lesser one is LOST", two, "lose(1, true)", "counts(2) = 0");
        E.edge("COPIED: the greater one is LOST", two, "lose(0, true)", "lose(2, true)", "counts(1) = 1");
        E.edge("COPIED from a TORN one", "town(0)", "letter(5, 0, 0, -1, 0)", "letter(3, 0, 0, 0, 0)", "counts(1) = 1");
        E.edge("COPIED from one that isn't KNOWN yet", "town(0)", "letter(0, 0, 0, -1, 10)", "letter(3, 0, 0, 0, 0)",
                "counts(1) = 1", "tick(1)", "counts(0) = 1", "counts(1) = 0");
        E.edge("COPIED: the lesser one isn't KNOWN yet", "town(0)", "letter(5, 0, 0, -1, 0)", "letter(3, 0, 0, 0, 10)",
                "letter(3, 0, 0, 0, 0)", "counts(1) = 0", "counts(2) = 1", "tick(1)", "counts(1) = 1", "counts(2) = 0");
        E.edge("COPIED from a COPIED one that doesn't COUNT", two, "letter(3, 0, 0, 1, 0)", "counts(3) = 1");
        E.edge("COPIED from a COPIED one that COUNTS", two, "letter(3, 0, 0, 1, 0)", "lose(0, true)", "counts(1) = 1",
                "counts(3) = 0");
        E.edge("COPIED: a lesser one from another doesn't matter", "town(0)", "letter(5, 0, 0, -1, 0)",
                "letter(5, 0, 0, -1, 0)", "letter(3, 0, 0, 0, 0)", "letter(3, 0, 0, 1, 0)", "counts(2) = 1",
                "counts(3) = 1");
        E.edge("COPIED: a lesser HEARD one from the same doesn't matter", "town(0)", "letter(5, 0, 0, -1, 0)",
                "letter(2, 0, 0, 0, 0)", "letter(3, 0, 0, 0, 0)", "counts(1) = 1", "counts(2) = 1");
        E.edge("COPIED: a lesser one that doesn't COUNT hides none", two, "letter(3, 0, 0, 0, 0)", "lose(0, true)",
                "lose(1, true)", "counts(2) = 1", "counts(3) = 0", "lose(2, true)", "counts(3) = 1");
        E.edge("COPIED from two in turn", "town(0)", "letter(5, 0, 0, -1, 0)", "letter(5, 0, 0, -1, 0)",
                "letter(3, 0, 0, 0, 0)", "letter(3, 0, 0, 1, 0)", "letter(3, 0, 0, 0, 0)", "letter(3, 0, 0, 1, 0)",
                "counts(2) = 1", "counts(3) = 1", "counts(4) = 0", "counts(5) = 0");
        E.edge("COPIED of another TOWN hides all the same", "town(0)", "town(1)", "letter(0, 0, 0, -1, 0)",
                "letter(3, 100, 0, 0, 0)", "counts(1) = 0");
        E.edge("COPIED: a chain as long as can be", "town(0)", "letter(0, 0, 0, -1, 0)", chainOf(3), "counts(0) = 1",
                "counts(1) = 0", "counts(2) = 1", "counts(28) = 1", "counts(29) = 0", "lose(0, true)", "counts(1) = 1",
                "counts(2) = 0", "counts(28) = 0", "counts(29) = 1");
    }

    /** LETTERS 1 to 29 of a kind, each from the one before it. */
    private static String chainOf(int kind) {
        String[] all = new String[29];
        for (int i = 0; i < 29; i++) {
            all[i] = "letter(" + kind + ", 0, 0, " + i + ", 0)";
        }
        return Edges.join(all);
    }

    private static void dueLets(String name, String letter, String means, int set) {
        E.edge("lets " + name, "town(0)", "letter(5, 1, 0, -1, 0)", Edges.text("word 0 is " + means, 0), letter,
                "lets(1) = " + set);
    }

    private static void lets() {
        E.promise(14, "lets");
        E.noLetter("lets(%)");
        String[] likeTheWord = {"letter(0, 0, 0, -1, 0)", "letter(1, 0, 0, -1, 0)", "letter(5, 0, 0, -1, 0)"};
        for (String letter : likeTheWord) {
            dueLets("of " + letter + " STEP 0", letter, "0", 1);
            dueLets("of " + letter + " STEP 11", letter, "11", 2048);
            dueLets("of " + letter + " STEPS 0 to 11", letter, "0-11", 4095);
            dueLets("of " + letter + " STEPS 4 to 6", letter, "4-6", 112);
        }
        String[] oneMore = {"letter(2, 0, 0, -1, 0)", "letter(2, 0, 0, 0, 0)", "letter(3, 0, 0, 0, 0)"};
        for (String letter : oneMore) {
            dueLets("of " + letter + " STEP 0 and one above", letter, "0", 3);
            dueLets("of " + letter + " STEP 1 and one on each side", letter, "1", 7);
            dueLets("of " + letter + " STEP 10 and one on each side", letter, "10", 0b111000000000);
            dueLets("of " + letter + " STEP 11 and one below", letter, "11", 0b110000000000);
            dueLets("of " + letter + " STEPS 0 to 11, all", letter, "0-11", 4095);
            dueLets("of " + letter + " STEPS 1 to 10, all", letter, "1-10", 4095);
            dueLets("of " + letter + " STEPS 4 to 6, and 3 and 7", letter, "4-6", 0b11111000);
        }
        dueLets("BENT by 0", "letter(4, 0, 0, -1, 0)", "4-6", 0b1110000);
        dueLets("BENT by 1", "letter(4, 0, 0, -1, 1)", "4-6", 0b1111000);
        dueLets("BENT by 5 from 5", "letter(4, 0, 0, -1, 5)", "5", 0b111111);
        dueLets("BENT by 5 from 6", "letter(4, 0, 0, -1, 5)", "6", 0b1111110);
        dueLets("BENT by 5 from 4: none below 0", "letter(4, 0, 0, -1, 5)", "4", 0b11111);
        dueLets("BENT by 5 from 0", "letter(4, 0, 0, -1, 5)", "0", 1);
        dueLets("BENT by 5 from 11: none above", "letter(4, 0, 0, -1, 5)", "11", 0b111111000000);
        dueLets("BENT by 5 from 10: none above", "letter(4, 0, 0, -1, 5)", "10", 0b11111100000);
        dueLets("BENT by 5 from all", "letter(4, 0, 0, -1, 5)", "0-11", 4095);
        E.each("a WORD without a RULE: LETTER %", "0 1 2 3 4 5", KINDS, "lets(%) = 4095");
        E.edge("whether it COUNTS or not", "town(0)", Edges.text("word 0 is 3", 0), "letter(0, 0, 0, -1, 990)",
                "letter(0, 0, 0, -1, 0)", "lose(1, true)", "letter(3, 0, 0, 1, 0)", "letter(3, 0, 0, 1, 0)",
                "lets(0) = 8", "lets(1) = 8", "lets(2) = 28", "lets(3) = 28");
        E.edge("by the RULE of the open DAY", "town(0)", Edges.text("word 0 is 3", 1), "letter(0, 0, 0, -1, 0)",
                "lets(0) = 4095", "tick(1)", "lets(0) = 8");
        E.edge("the last LETTER", Edges.text("word 9 is 2", 0), FULL_OF_LETTERS, "reread(29, 9)", "lets(29) = 4",
                "lets(28) = 4095");
    }

    private static void root() {
        E.promise(15, "root");
        E.noLetter("root(%)");
        E.each("one that is from none: LETTER %", "0 1 2 4 5", KINDS, "root(%) = %");
        E.edge("one that is from one", KINDS, "root(3) = 0");
        E.edge("a chain of HEARD ones as long as can be", "town(0)", "letter(2, 0, 0, -1, 0)", chainOf(2),
                "root(29) = 0", "root(1) = 0", "root(0) = 0");
        E.edge("a chain of COPIED ones as long as can be", "town(0)", "letter(0, 0, 0, -1, 0)", chainOf(3),
                "root(29) = 0");
        E.edge("a LOST one amid the chain", "town(0)", "letter(0, 0, 0, -1, 0)", "letter(2, 0, 0, 0, 0)",
                "letter(2, 0, 0, 1, 0)", "lose(1, true)", "root(2) = 0", "lose(0, true)", "root(2) = 0");
        E.edge("a HEARD one from none ends it", "town(0)", "letter(0, 0, 0, -1, 0)", "letter(2, 0, 0, -1, 0)",
                "letter(3, 0, 0, 1, 0)", "root(2) = 1");
        E.edge("the last LETTER is its own", FULL_OF_LETTERS, "root(29) = 29");
    }

    private static void tree() {
        E.promise(16, "tree");
        E.noLetter("tree(%)");
        E.edge("one alone", "town(0)", "letter(0, 0, 0, -1, 0)", "tree(0) = 1");
        E.edge("the last LETTER alone", FULL_OF_LETTERS, "tree(29) = 536870912", "tree(0) = 1");
        E.edge("all in one", "town(0)", "letter(0, 0, 0, -1, 0)", chainOf(2), "tree(0) = 1073741823",
                "tree(29) = 1073741823");
        E.edge("from each of its LETTERS the same", KINDS, "tree(0) = 0b1001", "tree(3) = 0b1001", "tree(1) = 0b10");
        E.edge("LOST ones are in it", KINDS, "lose(0, true)", "lose(3, true)", "tree(3) = 0b1001");
        E.edge("two from the same", "town(0)", "letter(0, 0, 0, -1, 0)", "letter(2, 0, 0, 0, 0)",
                "letter(2, 0, 0, 0, 0)", "letter(0, 0, 0, -1, 0)", "tree(1) = 0b111", "tree(2) = 0b111",
                "tree(3) = 0b1000");
    }

    private static String dated(String text, int when) {
        return Edges.join("town(0)", text.isEmpty() ? "" : Edges.text(text, 0), "letter(0, 0, " + when + ", -1, 0)");
    }

    private static final String FOUR = "reckon 0 more 9;reckon 1 more 99;reckon 2 more 1;reckon 3 more 50";

    private static void days() {
        E.promise(17, "days");
        E.noLetter("days(%)");
        E.each("a RECKONING that is told: %", "0 1 2 3", dated(FOUR, 100), "letter(0, 0, 10%, -1, 0)", "days(1) = 1");
        E.edge("not told, four alike", dated("", 1004), "days(0) = 1");
        E.edge("not told, one unlike", dated("reckon 3 more 1", 1004), "days(0) = 2");
        E.edge("not told, two pairs", dated("reckon 0 more 5;reckon 3 more 5", 1004), "days(0) = 2");
        E.edge("not told, three alike by RULES", dated("reckon 0 more 5;reckon 1 more 5;reckon 2 more 5", 1004),
                "days(0) = 2");
        E.edge("not told, three unlike", dated("reckon 0 more 5;reckon 3 more 6", 1004), "days(0) = 3");
        E.edge("not told, four unlike", dated(FOUR, 1004), "days(0) = 4");
        E.edge("by the RULES of the open DAY", "town(0)", "letter(0, 0, 1004, -1, 0)", Edges.text(FOUR, 1),
                "days(0) = 1", "tick(1)", "days(0) = 4");
        E.edge("whether it COUNTS or not", dated(FOUR, 1004), "lose(0, true)", "days(0) = 4");
        E.edge("the last LETTER", "town(0)", Edges.text(FOUR, 0), Edges.times(29, "letter(0, 0, 0, -1, 0)"),
                "letter(0, 0, 4, -1, 0)", "days(29) = 4", "days(28) = 1");
    }

    private static void day() {
        E.promise(18, "day");
        E.noLetter("day(%, 0)");
        E.edge("the least DAY that can be meant", dated("", 0), "day(0, 0) = 0", "day(0, 1) = NONE");
        E.edge("the greatest DAY that can be meant", dated("reckon 3 more 99", 9993), "day(0, 0) = 1098",
                "day(0, 1) = NONE");
        E.edge("the first to the last of four, the least first", dated(FOUR, 1004), "day(0, 0) = 101",
                "day(0, 1) = 109", "day(0, 2) = 150", "day(0, 3) = 199", "day(0, 4) = NONE");
        E.edge("one behind the last of two", dated("reckon 1 more 7", 1004), "day(0, 0) = 100", "day(0, 1) = 107",
                "day(0, 2) = NONE");
        E.edge("one behind the last of three", dated("reckon 1 more 7;reckon 0 more 3", 1004), "day(0, 0) = 100",
                "day(0, 1) = 103", "day(0, 2) = 107", "day(0, 3) = NONE");
        E.each("i is %", "-1 MIN", WORLD, "day(0, %) = BEYOND");
        E.each("i is far behind: %", "4 MAX", WORLD, "day(0, %) = NONE");
        E.edge("no LETTER is asked before NONE", WORLD, "day(8, 9) = BEYOND");
        E.edge("neither LETTER nor i", WORLD, "day(8, -1) = BEYOND", "day(-1, -1) = BEYOND");
    }

    private static void evening() {
        E.promise(19, "evening");
        E.noLetter("evening(%)");
        E.edge("itself alone", dated("", 1000), "letter(0, 0, 1010, -1, 0)", "evening(0) = 1", "evening(1) = 2");
        E.edge("not itself if it doesn't COUNT", dated("", 1000), "lose(0, true)", "evening(0) = 0");
        E.edge("a TORN one: others, not itself", dated("", 1000), "letter(5, 0, 1000, -1, 0)", "evening(1) = 0b1");
        E.edge("one that isn't KNOWN yet", dated("", 1000), "letter(0, 0, 1000, -1, 10)", "evening(0) = 0b1",
                "evening(1) = 0b1", "tick(1)", "evening(0) = 0b11", "evening(1) = 0b11");
        E.edge("all of them", "town(0)", Edges.times(30, "letter(0, 0, 4, -1, 0)"),
                "evening(0) = 1073741823", "evening(29) = 1073741823");
        E.edge("a DAY before and a DAY behind", dated("", 1000), "letter(0, 0, 990, -1, 0)", "letter(0, 0, 1010, -1, 0)",
                "evening(0) = 0b1");
        E.edge("other DATES, one DAY", dated("reckon 1 more 9", 1000), "letter(0, 0, 911, -1, 0)", "evening(0) = 0b11",
                "evening(1) = 0b11");
        E.edge("one DATE, other DAYS", dated("reckon 1 more 9", 1000), "letter(0, 0, 1001, -1, 0)", "evening(0) = 0b1");
        E.edge("not told: the last of its four", dated(FOUR, 1004), "letter(0, 0, 1001, -1, 0)", "evening(0) = 0b11",
                "evening(1) = 0b11");
        E.edge("not told, both: one DAY of four is the same", dated(FOUR, 1004), "letter(0, 0, 104, -1, 0)",
                "evening(0) = 0b11", "evening(1) = 0b11");
        E.edge("not told, both: none of four is the same", dated(FOUR, 1004), "letter(0, 0, 524, -1, 0)",
                "evening(0) = 0b1", "evening(1) = 0b10");
        E.edge("not told: FALLS is no fifth RECKONING", dated("", 1040), "letter(0, 0, 1004, -1, 0)", "evening(0) = 0b1",
                "evening(1) = 0b10", "days(1) = 1");
        E.edge("of another TOWN all the same", dated("", 1000), "town(1)", "letter(0, 100, 1000, -1, 0)",
                "evening(0) = 0b11");
    }
}

/** The boundary cases of promises 20 to 25: THE TAPE and texts. */
public final class EdgesTextsTest {
    private static final Edges E = new Edges("EdgesTextsTest");
    private static final String WORLD = Edges.WORLD;
    private static final String SIX = "falls 1;falls 2;falls 3;falls 4;falls 5;falls 6";
    private static final String FULL_OF_TEXTS = Edges.times(8, Edges.text("falls 3", 0));

    public static void main(String[] args) {
        feed();
        wipe();
        text();
        textFindings();
        textNumbers();
        textTokens();
        textEndsTooEarly();
        textRules();
        means();
        law();
        why();
        E.end(20, 25);
    }

    private static void feed() {
        E.promise(20, "feed");
        E.edge("the fewest bytes", "feed(59, 1) = 1", "look(7) = 1");
        E.edge("the most bytes", "feed(59, 4) = 4", "look(7) = 4");
        E.each("n is %", "0 -1 5 MIN MAX", WORLD, "feed(59, %) = BEYOND", "look(7) = 7");
        E.edge("the highest of them first", "feed(1717660780, 4) = 4", "feed(1931489335, 4) = 8", "text(0) = 0",
                "law(4) = 7");
        E.edge("higher bytes don't come: one", Edges.fed("falls "), "feed(2003792436, 1) = 7", "text(0) = 0",
                "law(4) = 4", "why(4) = 0");
        E.edge("higher bytes don't come: two", Edges.fed("falls"), "feed(2003771445, 2) = 7", "text(0) = 0",
                "law(4) = 5");
        E.edge("higher bytes don't come: three", Edges.fed("fall"), "feed(-9232329, 3) = 7", "text(0) = 0",
                "law(4) = 7");
        E.edge("a number below 0: bytes 255", "feed(-1, 4) = 4", "text(0) = -1");
        E.edge("a number below 0: its lowest byte", Edges.fed("falls "), "feed(-200, 1) = 7", "text(0) = 0",
                "law(4) = 8");
        E.edge("the least number", "feed(MIN, 4) = 4", "text(0) = -1");
        E.edge("the greatest number", "feed(MAX, 4) = 4", "text(0) = -1");
        E.edge("to 120 by four", Edges.times(29, "feed(0, 4)"), "feed(0, 4) = 120", "look(7) = 120");
        E.edge("to 120 by one", Edges.times(29, "feed(0, 4)"), "feed(0, 3)", "feed(0, 1) = 120");
        E.each("beyond 120 from 119 by %", "2 3 4", Edges.times(29, "feed(0, 4)"), "feed(0, 3)", "feed(0, %) = FULL", "look(7) = 119");
        E.edge("to 121 by four", Edges.times(29, "feed(0, 4)"), "feed(0, 1)", "feed(0, 4) = FULL", "feed(0, 3) = 120");
        E.each("full: % more", "1 2 3 4", Edges.times(30, "feed(0, 4)"), "feed(0, %) = FULL", "look(7) = 120");
        E.each("full: BEYOND is asked before FULL, n %", "0 -1 5", Edges.times(30, "feed(0, 4)"), "feed(0, %) = BEYOND");
    }

    private static void wipe() {
        E.promise(21, "wipe");
        E.edge("nothing there", "wipe() = 0", "look(7) = 0");
        E.edge("one byte there", "feed(0, 1)", "wipe() = 1", "wipe() = 0");
        E.edge("full", Edges.times(30, "feed(0, 4)"), "wipe() = 120", "look(7) = 0", "feed(0, 4) = 4");
        E.edge("bytes that come then are the first", Edges.fed("xx"), "wipe()", Edges.fed("falls 9"), "text(0) = 0",
                "law(4) = 9");
        E.edge("bytes that were there don't come again", Edges.fed("falls 12"), "wipe()", Edges.fed("falls 1"),
                "text(0) = 0", "law(4) = 1");
        E.edge("nothing else is empty", WORLD, "wipe() = 7", "look(0) = 4", "look(1) = 8", "look(4) = 2", "look(5) = 2",
                "write(0, 0, 0) = 5");
    }

    private static void text() {
        E.promise(22, "text");
        E.edge("from the first DAY on", Edges.fed("falls 9"), "text(0) = 0", "law(4) = 9");
        E.edge("from the last DAY on", Edges.fed("falls 9"), "text(9999) = 0", Edges.times(24, "tick(400)"),
                "tick(398)", "law(4) = 4", "tick(1)", "law(4) = 9");
        E.edge("none there yet", "look(4) = 0", Edges.fed("falls 9"), "text(0) = 0", "look(4) = 1");
        E.edge("one there", Edges.text("falls 9", 0), Edges.fed("falls 9"), "text(0) = 1", "look(4) = 2");
        E.edge("seven there: the last that can be", Edges.times(7, Edges.text("falls 3", 0)), Edges.fed("falls 9"),
                "text(0) = 7", "look(4) = 8", "why(4) = 70");
        E.edge("THE TAPE is empty then", Edges.fed("falls 9"), "text(0) = 0", "look(7) = 0", "text(0) = -1");
        E.edge("of the whole TAPE", Edges.fed("falls" + " ".repeat(114) + "9"), "look(7) = 120", "text(0) = 0",
                "law(4) = 9");
        E.edge("a FAULT in the last byte of the whole TAPE", Edges.fed("falls 9" + " ".repeat(112) + "x"),
                "look(7) = 120", "text(0) = -120");
        E.edge("a FAULT behind the last byte of the whole TAPE", Edges.fed("falls" + " ".repeat(115)), "look(7) = 120",
                "text(0) = -121", "wipe() = 120");
    }

    private static void textFindings() {
        E.each("from DAY %", "-1 10000 MIN MAX", WORLD, "text(%) = BEYOND", "look(7) = 7", "look(4) = 2");
        E.edge("full: one more", FULL_OF_TEXTS, Edges.fed("falls 9"), "text(0) = FULL", "look(4) = 8", "look(7) = 7",
                "law(4) = 3");
        E.each("full: BEYOND is asked before FULL, from DAY %", "-1 10000", FULL_OF_TEXTS, Edges.fed("falls 9"),
                "text(%) = BEYOND");
        E.edge("full: FULL is asked before a FAULT", FULL_OF_TEXTS, Edges.fed("falls 0"), "text(0) = FULL");
        E.edge("full: FULL is asked before the FAULT of an empty TAPE", FULL_OF_TEXTS, "text(0) = FULL");
        E.each("BEYOND is asked before a FAULT, from DAY %", "-1 10000", Edges.fed("falls 0"), "text(%) = BEYOND");
        E.edge("BEYOND is asked before the FAULT of an empty TAPE", "text(-1) = BEYOND");
    }

    /** This is a TEXT. */
    private static void stands(String name, String signs, String... then) {
        E.edge(name + ": \"" + signs + "\"", Edges.fed(signs), "text(0) = 0", "look(7) = 0", "look(4) = 1",
                "status(-1) = 0", Edges.join(then));
    }

    /** This has its FAULT there: THE TAPE stays, and that is no finding. */
    private static void fault(String name, String signs, int place) {
        E.edge(name + ": \"" + signs + "\"", WORLD, "wipe()", Edges.fed(signs), "text(0) = " + (-1 - place),
                "look(7) = " + signs.length(), "look(4) = 2", "status(-1) = 0");
    }

    private static void textNumbers() {
        stands("word: the first", "word 0 is 3", "means(0) = 8");
        stands("word: the last", "word 15 is 3", "means(15) = 8");
        fault("word: one above", "word 16 is 3", 5);
        stands("word is: the first STEP", "word 1 is 0", "means(1) = 1");
        stands("word is: the last STEP", "word 1 is 11", "means(1) = 2048");
        fault("word is: one above", "word 1 is 12", 10);
        stands("word is to: all STEPS", "word 1 is 0-11", "means(1) = 4095");
        stands("word is to: the same STEP", "word 1 is 5-5", "means(1) = 32");
        stands("word is to: the first STEP alone", "word 1 is 0-0", "means(1) = 1");
        stands("word is to: the last STEP alone", "word 1 is 11-11", "means(1) = 2048");
        fault("word is to: one below that", "word 1 is 5-4", 12);
        fault("word is to: below the last", "word 1 is 11-10", 13);
        fault("word is to: one above", "word 1 is 5-12", 12);
        stands("reckon: the first", "reckon 0 more 7", "law(0) = 7");
        stands("reckon: the last", "reckon 3 more 7", "law(3) = 7");
        fault("reckon: one above", "reckon 4 more 7", 7);
        stands("reckon more: the least", "reckon 1 more 0", "law(1) = 0", "why(1) = 0");
        stands("reckon more: the greatest", "reckon 1 more 99", "law(1) = 99");
        fault("reckon more: one above", "reckon 1 more 100", 14);
        stands("falls: the least", "falls 1", "law(4) = 1");
        stands("falls: the greatest", "falls 20", "law(4) = 20");
        fault("falls: one below", "falls 0", 6);
        fault("falls: one above", "falls 21", 6);
        stands("ground: the first", "ground 0 more 7", "law(5) = 7");
        stands("ground: the last", "ground 2 more 7", "law(7) = 7");
        fault("ground: one above", "ground 3 more 7", 7);
        stands("ground more: the least", "ground 1 more 0", "law(6) = 0");
        stands("ground more: the greatest", "ground 1 more 9", "law(6) = 9");
        fault("ground more: one above", "ground 1 more 10", 14);
        stands("a NUMBER with noughts before it", "falls 0000000007", "law(4) = 7");
        fault("noughts alone", "falls 0000", 6);
        fault("a NUMBER that would wrap around in 32 bits", "falls 4294967297", 6);
        fault("a NUMBER that would wrap around in 64 bits", "falls 18446744073709551617", 6);
        fault("a NUMBER of 2147483648", "word 2147483648 is 1", 5);
        fault("a NUMBER as long as THE TAPE lets", "falls " + "9".repeat(114), 6);
        fault("word: a NUMBER that would wrap around", "word 4294967296 is 1", 5);
        fault("word is to: a NUMBER that would wrap around", "word 1 is 0-4294967297", 12);
    }

    private static void textTokens() {
        stands("blanks may stand between", "  word   1  is 3   -  4  ;  falls   2  ", "means(1) = 24", "law(4) = 2");
        stands("no blanks need stand between NAMES and NUMBERS", "word1is3-4;falls2", "means(1) = 24", "law(4) = 2");
        fault("NAMES as long as can be", "falls2;wordis", 7);
        fault("a NAME that begins like one of these", "fallsx 2", 0);
        fault("a NAME that is the beginning of one", "fall 2", 0);
        fault("a NAME with one letter more, the first", "fallsa 2", 0);
        fault("a NAME with one letter more, the last", "fallsz 2", 0);
        fault("a NAME with another first letter, falls", "galls 2", 0);
        fault("a NAME with another last letter, falls", "fallt 2", 0);
        fault("a NAME with another first letter, word", "xord 1 is 2", 0);
        fault("a NAME with another first letter, is", "word 1 as 2", 7);
        fault("a NAME with another last letter, is", "word 1 it 2", 7);
        fault("a NAME with another first letter, more", "reckon 1 gore 2", 9);
        fault("a NAME with another last letter, more", "ground 1 mort 2", 9);
        fault("a NAME of one letter, the first", "a 2", 0);
        fault("a NAME of one letter, the last", "z 2", 0);
        fault("a NAME for another one, is", "word 1 more 3", 7);
        fault("a NAME for another one, more of reckon", "reckon 1 is 3", 9);
        fault("a NAME for another one, more of ground", "ground 1 is 3", 9);
        fault("a NAME where a NUMBER is due", "falls is", 6);
        fault("a NUMBER where a NAME is due, at first", "3 falls", 0);
        fault("a NUMBER where a NAME is due", "word 1 3", 7);
        fault("a SIGN where a RULE is due: ;", "; falls 3", 0);
        fault("a SIGN where a RULE is due: -", "-", 0);
        fault("a SIGN where a NUMBER is due", "falls -3", 6);
        fault("- behind falls", "falls 3-4", 7);
        fault("- behind reckon", "reckon 1 more 3-4", 15);
        fault("- behind ground", "ground 1 more 3-4", 15);
        fault("- behind the last STEP", "word 1 is 3-4-5", 13);
        fault("- and no NUMBER", "word 1 is 3-;", 12);
        fault("a second NUMBER", "word 1 is 3 4", 12);
        fault("a NAME where a ; is due", "falls 3 falls 4", 8);
        for (int b : new int[] {0, 9, 10, 13, 31, 33, 44, 46, 47, 58, 60, 64, 65, 90, 91, 95, 96, 123, 127, 128, 160, 225,
            255}) {
            fault("byte " + b + " begins no TOKEN, at first", (char) b + "falls 3", 0);
            fault("byte " + b + " begins no TOKEN, in a NAME", "fal" + (char) b + "ls 3", 0);
            fault("byte " + b + " begins no TOKEN, behind a NAME", "falls" + (char) b + "3", 5);
            fault("byte " + b + " begins no TOKEN, behind a NUMBER", "falls 3" + (char) b, 7);
        }
        fault("the first FAULT counts", "falls 21;falls 22;A", 6);
        fault("a FAULT in the second RULE", "falls 20;falls 21", 15);
    }

    private static void textEndsTooEarly() {
        fault("nothing", "", 0);
        fault("blanks alone", "   ", 3);
        for (String whole : new String[] {"word 1 is", "reckon 1 more", "ground 1 more", "falls"}) {
            int end = 0;
            for (String part : whole.split(" ")) {
                end += (end == 0 ? 0 : 1) + part.length();
                fault("ends too early", whole.substring(0, end), end);
                fault("ends too early, with a blank", whole.substring(0, end) + " ", end + 1);
            }
        }
        fault("ends too early behind -", "word 1 is 3-", 12);
        fault("ends too early behind - and blanks", "word 1 is 3 -  ", 15);
        fault("ends too early behind ;", "falls 3;", 8);
        fault("ends too early behind ; and blanks", "falls 3 ;  ", 11);
        fault("ends amid a NAME", "wor", 0);
    }

    private static void textRules() {
        stands("one RULE", "falls 7", "law(4) = 7", "why(4) = 0");
        stands("two RULES", "falls 7;word 1 is 2", "law(4) = 7", "why(9) = 1");
        stands("six RULES, the most", "word 0 is 1;word 1 is 2;word 2 is 3;word 3 is 4;falls 5;reckon 0 more 6",
                "why(8) = 0", "why(9) = 1", "why(10) = 2", "why(11) = 3", "why(4) = 4", "why(0) = 5", "law(0) = 6");
        fault("a seventh RULE: its first TOKEN", SIX + ";falls 7", 48);
        fault("a seventh RULE behind blanks", SIX + " ;  falls 7", 51);
        fault("a seventh RULE that is none", SIX + ";x", 48);
        fault("a seventh RULE of a byte that begins no TOKEN", SIX + ";A", 48);
        fault("a seventh RULE of a SIGN", SIX + ";;", 48);
        fault("a seventh RULE that isn't there", SIX + ";", 48);
        fault("a seventh RULE that isn't there, with blanks", SIX + ";  ", 50);
        fault("a seventh RULE without ;", SIX + " falls 7", 48);
        fault("a FAULT in the sixth RULE", "falls 1;falls 2;falls 3;falls 4;falls 5;falls 0;falls 7", 46);
        fault("RULES that stood before a FAULT don't hold", "falls 19;word 3 is 1;falls 0", 27);
        E.edge("a TEXT behind a FAULT has its own RULES alone", Edges.fed("falls 19;word 3 is 1;falls 0"),
                "text(0) = -28", "wipe()", Edges.fed("falls 2"), "text(0) = 0", "law(4) = 2", "means(3) = 4095",
                "why(11) = NONE");
        E.edge("a TEXT behind a longer one has its own RULES alone", Edges.text("falls 9;word 3 is 1", 1),
                Edges.fed("falls 2"), "text(0) = 1", "means(3) = 4095", "tick(1)", "means(3) = 2", "law(4) = 2",
                "why(11) = 1", "why(4) = 10");
    }

    private static void means() {
        E.promise(23, "means");
        E.edge("the first WORD", Edges.text("word 0 is 3-4", 0), "means(0) = 24", "means(1) = 4095");
        E.edge("the last WORD", Edges.text("word 15 is 3-4", 0), "means(15) = 24", "means(14) = 4095");
        E.each("WORD % is none", "-1 16 MIN MAX", WORLD, "means(%) = BEYOND");
        for (int word = 0; word < 16; word++) {
            E.edge("WORD " + word + " without a RULE: all", "means(" + word + ") = 4095");
        }
        E.edge("the fewest STEPS: the first", Edges.text("word 7 is 0", 0), "means(7) = 1");
        E.edge("the fewest STEPS: the last", Edges.text("word 7 is 11", 0), "means(7) = 2048");
        E.edge("the most STEPS", Edges.text("word 7 is 0-11", 0), "means(7) = 4095", "why(15) = 0");
        E.edge("all but the first STEP", Edges.text("word 7 is 1-11", 0), "means(7) = 4094");
        E.edge("all but the last STEP", Edges.text("word 7 is 0-10", 0), "means(7) = 2047");
        E.edge("a DAY before it is in force", Edges.text("word 7 is 2", 3), "tick(2)", "means(7) = 4095", "tick(1)",
                "means(7) = 4", "tick(1)", "means(7) = 4");
        E.edge("of two TEXTS the greatest number, not the latest DAY", Edges.text("word 7 is 2", 3),
                Edges.text("word 7 is 5", 1), "means(7) = 4095", "tick(1)", "means(7) = 32", "tick(2)", "means(7) = 32");
        E.edge("of two TEXTS the one that is in force", Edges.text("word 7 is 2", 0), Edges.text("word 7 is 5", 1),
                "means(7) = 4", "tick(1)", "means(7) = 32");
        E.edge("of two TEXTS the one that has such a RULE", Edges.text("word 7 is 2", 0), Edges.text("word 8 is 5", 0),
                "means(7) = 4", "means(8) = 32");
        E.edge("of eight TEXTS the last", Edges.text("word 7 is 2", 0), Edges.times(6, Edges.text("word 7 is 3", 0)),
                Edges.text("word 7 is 4", 0), "means(7) = 16", "why(15) = 70");
        E.edge("of two RULES in a TEXT the first", Edges.text("word 7 is 2;word 7 is 5", 0), "means(7) = 4");
        E.edge("RULES of another sort with the same NUMBER aren't about it",
                Edges.text("reckon 2 more 3;ground 2 more 3;word 2 is 7", 0), "means(2) = 128", "law(2) = 3",
                "law(7) = 3");
    }

    private static void law() {
        E.promise(24, "law");
        E.each("what % is none", "-1 8 MIN MAX", WORLD, "law(%) = BEYOND");
        E.edge("without: MORE of RECKONINGS", "law(0) = 0", "law(1) = 0", "law(2) = 0", "law(3) = 0");
        E.edge("without: FALLS", "law(4) = 4");
        E.edge("without: MORE of GROUND", "law(5) = 0", "law(6) = 1", "law(7) = 2");
        for (int reckoning = 0; reckoning < 4; reckoning++) {
            String rule = "reckon " + reckoning + " more ";
            E.edge("RECKONING " + reckoning + ": the greatest MORE", Edges.text(rule + 99, 0),
                    "law(" + reckoning + ") = 99");
            E.edge("RECKONING " + reckoning + ": the least MORE", Edges.text(rule + 7, 0), Edges.text(rule + 0, 0),
                    "law(" + reckoning + ") = 0");
        }
        E.edge("FALLS: the least", Edges.text("falls 1", 0), "law(4) = 1");
        E.edge("FALLS: the greatest", Edges.text("falls 20", 0), "law(4) = 20");
        for (int ground = 0; ground < 3; ground++) {
            String rule = "ground " + ground + " more ";
            E.edge("GROUND " + ground + ": the greatest MORE", Edges.text(rule + 9, 0), "law(" + (5 + ground) + ") = 9");
            E.edge("GROUND " + ground + ": the least MORE", Edges.text(rule + 0, 0), "law(" + (5 + ground) + ") = 0",
                    "why(" + (5 + ground) + ") = 0");
        }
        E.edge("a RULE about one isn't about those beside it", Edges.text("reckon 3 more 9;ground 0 more 8", 0),
                "law(2) = 0", "law(3) = 9", "law(4) = 4", "law(5) = 8", "law(6) = 1");
        E.edge("a DAY before it is in force", Edges.text("falls 9", 3), "tick(2)", "law(4) = 4", "tick(1)", "law(4) = 9");
        E.edge("the greatest number, not the latest DAY", Edges.text("falls 9", 3), Edges.text("falls 8", 1),
                "law(4) = 4", "tick(1)", "law(4) = 8", "tick(2)", "law(4) = 8");
        E.edge("of two RULES in a TEXT the first", Edges.text("falls 9;falls 8", 0), "law(4) = 9");
    }

    private static void why() {
        E.promise(25, "why");
        E.each("what % is none", "-1 24 MIN MAX", WORLD, "why(%) = BEYOND");
        E.each("what % without a TEXT", "0 1 2 3 4 5 6 7 8 9 10 11 12 13 14 15 16 17 18 19 20 21 22 23", "why(%) = NONE");
        String seven = Edges.times(7, Edges.text("falls 1", 0));
        E.edge("the first TEXT and RULE", Edges.text("word 0 is 1", 0), "why(8) = 0");
        E.edge("the last TEXT and RULE", seven, Edges.text("falls 1;falls 2;falls 3;falls 4;falls 5;word 15 is 1", 0),
                "why(23) = 75", "why(4) = 70");
        E.edge("the first and the last RECKONING", Edges.text("reckon 3 more 1;reckon 0 more 1", 0), "why(0) = 1",
                "why(3) = 0", "why(1) = NONE", "why(2) = NONE");
        E.edge("the first and the last GROUND", Edges.text("ground 2 more 1;ground 0 more 1", 0), "why(5) = 1",
                "why(7) = 0", "why(6) = NONE");
        E.edge("the first and the last WORD", Edges.text("word 15 is 1;word 0 is 1", 0), "why(8) = 1", "why(23) = 0",
                "why(9) = NONE", "why(22) = NONE");
        E.edge("a RULE that tells what holds without", Edges.text("falls 4;word 1 is 0-11;reckon 0 more 0", 0),
                "why(4) = 0", "why(9) = 1", "why(0) = 2");
        E.edge("a DAY before it is in force", Edges.text("falls 9", 3), "tick(2)", "why(4) = NONE", "tick(1)",
                "why(4) = 0");
        E.edge("the first RULE about the same", Edges.text("word 2 is 1;falls 9;falls 8", 0), "why(4) = 1");
        E.edge("the greatest TEXT about the same", Edges.text("falls 9", 0), Edges.text("word 2 is 1", 0), "why(4) = 0",
                Edges.text("word 1 is 1;falls 2", 0), "why(4) = 21");
    }
}

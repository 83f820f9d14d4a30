/** Promises 20 to 25: THE TAPE and texts. */
public final class TextsTest {
    private static final Due DUE = new Due("TextsTest");

    public static void main(String[] args) {
        feedAndWipe();
        goodTexts();
        faults();
        sixRules();
        means();
        law();
        why();
        whichRuleCounts();
        DUE.end();
    }

    private static void feedAndWipe() {
        ShakeLetters x = new ShakeLetters();
        for (int i = 1; i <= 29; i++) {
            DUE.is("feed 4, " + i, x.feed(-1, 4), 4 * i);
        }
        DUE.is("feed to 117", x.feed(32, 1), 117);
        DUE.is("feed to 120", x.feed(0, 3), 120);
        DUE.is("wipe()", x.wipe(), 120);
        DUE.is("wipe() again", x.wipe(), 0);
        DUE.is("an empty tape's fault", x.text(0), -1);
        // The highest of the lowest bytes comes first, and higher ones don't come.
        x.feed(0x7a66616c, 3);
        x.feed(0x6c732037, 4);
        DUE.is("bytes in their order", x.text(0), 0);
        DUE.is("bytes in their order: FALLS", x.law(4), 7);
        DUE.is("the tape is empty then", x.look(7), 0);
        x.feed(0xe6, 1);
        DUE.is("a byte above 127", x.text(0), -1);
    }

    private static void goodTexts() {
        String[] good = {"falls 1", "falls 20", "  falls   3  ", "falls3", "falls 007", "word0is0", "word 15 is 11",
            "word 15 is 0-11", "word 3 is 5 - 5", "reckon 0 more 0", "reckon3more99", "ground 0 more 0",
            "ground 2 more 9", "falls 1;falls 2", "falls 1 ; falls 2;word 1 is 2", "word 2 is 3-4;falls 1",
            "falls 00000000000000000000000000000000000004"};
        for (String text : good) {
            DUE.is("\"" + text + "\"", Due.read(new ShakeLetters(), text, 0), 0);
        }
    }

    private static void fault(String text, int place) {
        ShakeLetters x = new ShakeLetters();
        Due.feed(x, text);
        int all = x.status(-1);
        DUE.is("\"" + text + "\"", x.text(0), -1 - place);
        DUE.is("\"" + text + "\" stays on the tape", x.look(7), text.length());
        DUE.is("\"" + text + "\" is no TEXT", x.look(4), 0);
        DUE.is("\"" + text + "\" is no finding", x.status(-1), all);
    }

    private static void faults() {
        fault("", 0);
        fault("   ", 3);
        fault("falls", 5);
        fault("falls ", 6);
        fault("falls 0", 6);
        fault("falls 21", 6);
        fault("falls 4294967297", 6);
        fault("falls 99999999999999999999", 6);
        fault("falls -3", 6);
        fault("falls x", 6);
        fault("falls 3 x", 8);
        fault("falls 3x", 7);
        fault("falls 3 4", 8);
        fault("falls 3;", 8);
        fault("falls 3 ;  ", 11);
        fault("falls 3;;", 8);
        fault(";falls 3", 0);
        fault("fall 3", 0);
        fault("fallss 3", 0);
        fault("fallsA3", 5);
        fault("Falls 3", 0);
        fault("7", 0);
        fault("is 3", 0);
        fault("more 3", 0);
        fault("word", 4);
        fault("word 16 is 3", 5);
        fault("word 1", 6);
        fault("word 1 more 3", 7);
        fault("word 1 iss 3", 7);
        fault("word 1 is", 9);
        fault("word 1 is 12", 10);
        fault("word 1 is 3 -", 13);
        fault("word 1 is 3 - 2", 14);
        fault("word 1 is 3 - 12", 14);
        fault("word 1 is 3 - x", 14);
        fault("word 1 is 3 - 4 - 5", 16);
        fault("word 1 is 3 4", 12);
        fault("word is 3", 5);
        fault("wordword 1 is 3", 0);
        fault("reckon 4 more 3", 7);
        fault("reckon 3 is 3", 9);
        fault("reckon 3 more 100", 14);
        fault("reckon 3 more 9 - 9", 16);
        fault("ground 3 more 3", 7);
        fault("ground 2 more 10", 14);
        fault("ground 2 more 1 is", 16);
        fault("falls 3 - 4", 8);
        fault("falls 3;word 77 is 1", 13);
        fault("falls 3, falls 4", 7);
        fault("falls\t3", 5);
        fault("falls\n3", 5);
        fault("falls 3" + (char) 0, 7);
        fault("falls 3" + (char) 160, 7);
        fault("{falls 3", 0);
        fault("`falls 3", 0);
        fault("falls /", 6);
        fault("falls :", 6);
    }

    private static void sixRules() {
        String six = "falls 1;falls 2;falls 3;falls 4;falls 5;falls 6";
        DUE.is("six rules", Due.read(new ShakeLetters(), six, 0), 0);
        fault(six + ";", 48);
        fault(six + " ;  ", 51);
        fault(six + "; falls 7", 49);
        fault(six + ";A", 48);
        fault(six + ";;", 48);
        fault(six + " falls 7", 48);
    }

    private static void means() {
        ShakeLetters x = new ShakeLetters();
        Due.read(x, "word 0 is 0; word 1 is 11; word 15 is 3-5; word 2 is 0-11; word 15 is 1", 0);
        DUE.is("means(0)", x.means(0), 1);
        DUE.is("means(1)", x.means(1), 2048);
        DUE.is("means(2)", x.means(2), 4095);
        DUE.is("means(3)", x.means(3), 4095);
        DUE.is("means(15)", x.means(15), 56);
    }

    private static void law() {
        ShakeLetters x = new ShakeLetters();
        long[] first = {0, 0, 0, 0, 4, 0, 1, 2};
        for (int what = 0; what < 8; what++) {
            DUE.is("law without texts, " + what, x.law(what), first[what]);
        }
        Due.read(x, "reckon 0 more 11; reckon 1 more 22; reckon 2 more 33; reckon 3 more 99; falls 20", 0);
        Due.read(x, "ground 0 more 7; ground 1 more 8; ground 2 more 9", 0);
        long[] then = {11, 22, 33, 99, 20, 7, 8, 9};
        for (int what = 0; what < 8; what++) {
            DUE.is("law by texts, " + what, x.law(what), then[what]);
        }
    }

    private static void why() {
        ShakeLetters x = new ShakeLetters();
        Due.read(x, "falls 3", 0);
        Due.read(x, "word 0 is 1;word 15 is 2;reckon 0 more 1;reckon 3 more 2;ground 0 more 3;ground 2 more 4", 0);
        DUE.is("why(8)", x.why(8), 10);
        DUE.is("why(23)", x.why(23), 11);
        DUE.is("why(0)", x.why(0), 12);
        DUE.is("why(3)", x.why(3), 13);
        DUE.is("why(5)", x.why(5), 14);
        DUE.is("why(7)", x.why(7), 15);
        DUE.is("why(4)", x.why(4), 0);
        DUE.is("why(9)", x.why(9), Due.NONE);
    }

    private static void whichRuleCounts() {
        ShakeLetters x = new ShakeLetters();
        Due.read(x, "falls 5; falls 6; word 1 is 1", 0);
        Due.read(x, "falls 7", 3);
        Due.read(x, "falls 8; word 1 is 2; word 1 is 3", 2);
        DUE.is("the first rule of a text", x.law(4), 5);
        DUE.is("means by the first text", x.means(1), 2);
        x.tick(1);
        DUE.is("a DAY before", x.law(4), 5);
        x.tick(1);
        DUE.is("in force on its DAY", x.law(4), 8);
        DUE.is("why then", x.why(4), 20);
        DUE.is("means then", x.means(1), 4);
        DUE.is("why of the word then", x.why(9), 21);
        x.tick(1);
        DUE.is("the greatest number, not the latest DAY", x.law(4), 8);
    }
}

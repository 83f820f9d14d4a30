/** Promises 8 to 19: letters. */
public final class LettersTest {
    private static final Due DUE = new Due("LettersTest");

    public static void main(String[] args) {
        letter();
        as();
        told();
        lose();
        reread();
        counts();
        countsOfCopies();
        lets();
        rootAndTree();
        daysAndDay();
        evening();
        DUE.end();
    }

    private static ShakeLetters withTowns(int n) {
        ShakeLetters x = new ShakeLetters();
        for (int i = 0; i < n; i++) {
            x.town(9 * i);
        }
        return x;
    }

    private static void letter() {
        ShakeLetters x = withTowns(16);
        x.tick(7);
        DUE.is("a LETTER", x.letter(0, 0, 0, -1, 0), 0);
        DUE.is("an EYE", x.letter(1, 1515, 9994, -1, 990), 1);
        DUE.is("a HEARD one from none", x.letter(2, 305, 123, -1, 0), 2);
        DUE.is("a HEARD one from one", x.letter(2, 305, 123, 1, 0), 3);
        DUE.is("a COPIED one", x.letter(3, 305, 123, 3, 20), 4);
        DUE.is("a BENT one", x.letter(4, 305, 123, -1, 995), 5);
        DUE.is("a BENT one of LEAN 0", x.letter(4, 305, 123, -1, 30), 6);
        DUE.is("a TORN one", x.letter(5, 305, 123, -1, 0), 7);
        for (int i = 8; i < 30; i++) {
            DUE.is("letter " + i, x.letter(0, 0, 0, -1, 0), i);
        }
    }

    /** One LETTER of each kind, its number the kind's. */
    private static ShakeLetters withKinds() {
        ShakeLetters x = withTowns(1);
        x.letter(0, 0, 0, -1, 0);
        x.letter(1, 0, 0, -1, 0);
        x.letter(2, 0, 0, -1, 0);
        x.letter(3, 0, 0, 0, 0);
        x.letter(4, 0, 0, -1, 3);
        x.letter(5, 0, 0, -1, 0);
        return x;
    }

    private static void as() {
        ShakeLetters x = withKinds();
        for (int letter = 0; letter < 6; letter++) {
            for (int kind = 0; kind < 6; kind++) {
                boolean is = kind == 0 || kind == letter || (letter == 3 && kind == 2);
                DUE.is("as(" + letter + ", " + kind + ")", x.as(letter, kind), is ? letter : Due.KIND);
            }
        }
    }

    private static void told() {
        ShakeLetters x = withKinds();
        x.town(3);
        x.tick(40);
        int bent = x.letter(4, 113, 9873, -1, 995);
        int copied = x.letter(3, 15, 4, 4, 10);
        long[] ofBent = {4, 1, 13, 987, 3, 139, 0, Due.KIND, 5};
        long[] ofCopied = {3, 0, 15, 0, 4, 41, 1, 4, Due.KIND};
        x.lose(copied, true);
        for (int what = 0; what < 9; what++) {
            DUE.is("told of a BENT one, " + what, x.told(bent, what), ofBent[what]);
            DUE.is("told of a COPIED one, " + what, x.told(copied, what), ofCopied[what]);
        }
        DUE.is("told(2, 7)", x.told(2, 7), -1);
    }

    private static void lose() {
        ShakeLetters x = withTowns(1);
        for (int i = 0; i < 30; i++) {
            x.letter(0, 0, 0, -1, 0);
        }
        DUE.is("HERE already", x.lose(29, false), 0);
        DUE.is("LOST", x.lose(29, true), 1);
        DUE.is("LOST already", x.lose(29, true), 0);
        DUE.is("told as LOST", x.told(29, 6), 1);
        DUE.is("others are HERE", x.look(3), 1);
        DUE.is("HERE", x.lose(29, false), 1);
        DUE.is("told as HERE", x.told(29, 6), 0);
    }

    private static void reread() {
        ShakeLetters x = withTowns(1);
        x.letter(0, 4, 0, -1, 0);
        x.letter(5, 5, 0, -1, 990);
        DUE.is("reread(0, 15)", x.reread(0, 15), 4);
        DUE.is("reread(0, 0)", x.reread(0, 0), 15);
        DUE.is("reread of a TORN one that isn't KNOWN yet", x.reread(1, 6), 5);
        x.lose(0, true);
        x.lose(0, false);
        DUE.is("reread as it was", x.reread(0, 1), 0);
    }

    private static void counts() {
        ShakeLetters x = withTowns(1);
        x.letter(0, 0, 0, -1, 0);
        x.letter(1, 0, 0, -1, 20);
        x.letter(5, 0, 0, -1, 0);
        x.letter(2, 0, 0, 0, 0);
        x.letter(4, 0, 0, -1, 5);
        DUE.is("a LETTER counts", x.counts(0), 1);
        DUE.is("not KNOWN yet", x.counts(1), 0);
        x.tick(1);
        DUE.is("not KNOWN a DAY before", x.counts(1), 0);
        x.tick(1);
        DUE.is("KNOWN on that DAY", x.counts(1), 1);
        DUE.is("TORN", x.counts(2), 0);
        DUE.is("HEARD from one that counts", x.counts(3), 1);
        DUE.is("BENT", x.counts(4), 1);
        x.lose(4, true);
        DUE.is("LOST", x.counts(4), 0);
    }

    private static void countsOfCopies() {
        ShakeLetters x = withTowns(1);
        x.letter(1, 0, 0, -1, 0);
        x.letter(3, 0, 0, 0, 0);
        x.letter(3, 0, 0, 0, 0);
        x.letter(3, 0, 0, 1, 0);
        x.letter(3, 0, 0, 3, 0);
        x.letter(5, 0, 0, -1, 0);
        x.letter(3, 0, 0, 5, 0);
        dueCounts(x, "0 counts", 0b1001001);
        x.lose(0, true);
        dueCounts(x, "0 is LOST", 0b1010010);
        x.lose(1, true);
        dueCounts(x, "0, 1 are LOST", 0b1001100);
        x.lose(2, true);
        dueCounts(x, "0, 1, 2 are LOST", 0b1001000);
        x.lose(0, false);
        dueCounts(x, "1, 2 are LOST", 0b1001001);
        DUE.is("those that count", x.look(2), 3);
        x.letter(3, 0, 0, 3, 10);
        x.lose(3, true);
        x.lose(4, true);
        DUE.is("a copy that isn't KNOWN yet", x.counts(7), 0);
        x.tick(1);
        DUE.is("a copy that is KNOWN", x.counts(7), 1);
        x.lose(4, false);
        DUE.is("a lesser one counts", x.counts(7), 0);
    }

    private static void dueCounts(ShakeLetters x, String when, int set) {
        for (int letter = 0; letter < x.look(1); letter++) {
            DUE.is(when + ": counts(" + letter + ")", x.counts(letter), (set >> letter) & 1);
        }
    }

    private static void lets() {
        ShakeLetters x = withTowns(1);
        Due.read(x, "word 0 is 0; word 1 is 11; word 2 is 4-6; word 3 is 1 - 10", 0);
        x.letter(0, 2, 0, -1, 0);
        x.letter(1, 0, 0, -1, 0);
        x.letter(2, 0, 0, -1, 0);
        x.letter(2, 1, 0, -1, 0);
        x.letter(3, 2, 0, 0, 0);
        x.letter(4, 2, 0, -1, 3);
        x.letter(4, 2, 0, -1, 5);
        x.letter(4, 2, 0, -1, 0);
        x.letter(5, 2, 0, -1, 0);
        x.letter(2, 3, 0, -1, 0);
        x.letter(2, 9, 0, -1, 0);
        x.letter(4, 1, 0, -1, 5);
        long[] want = {0x70, 1, 3, 0xC00, 0xF8, 0x7E, 0x7F, 0x70, 0x70, 0xFFF, 0xFFF, 0xFC0};
        for (int letter = 0; letter < want.length; letter++) {
            DUE.is("lets(" + letter + ")", x.lets(letter), want[letter]);
        }
        x.lose(0, true);
        DUE.is("lets of a LOST one", x.lets(0), 0x70);
    }

    private static void rootAndTree() {
        ShakeLetters x = withTowns(1);
        x.letter(0, 0, 0, -1, 0);
        x.letter(2, 0, 0, 0, 0);
        x.letter(3, 0, 0, 1, 0);
        x.letter(2, 0, 0, -1, 0);
        x.letter(3, 0, 0, 3, 0);
        x.letter(2, 0, 0, 2, 0);
        x.letter(1, 0, 0, -1, 0);
        long[] roots = {0, 0, 0, 3, 3, 0, 6};
        long[] trees = {0b100111, 0b100111, 0b100111, 0b11000, 0b11000, 0b100111, 0b1000000};
        for (int letter = 0; letter < roots.length; letter++) {
            DUE.is("root(" + letter + ")", x.root(letter), roots[letter]);
            DUE.is("tree(" + letter + ")", x.tree(letter), trees[letter]);
        }
        ShakeLetters chain = withTowns(1);
        for (int i = 0; i < 30; i++) {
            chain.letter(2, 0, 0, i - 1, 0);
        }
        DUE.is("root at the end of a chain", chain.root(29), 0);
        DUE.is("tree of a chain", chain.tree(15), (1 << 30) - 1);
        chain.lose(3, true);
        DUE.is("root behind a LOST one", chain.root(29), 0);
    }

    private static void daysAndDay() {
        ShakeLetters x = withTowns(1);
        x.letter(0, 0, 1004, -1, 0);
        x.letter(0, 0, 9992, -1, 0);
        DUE.is("days without rules", x.days(0), 1);
        DUE.is("day without rules", x.day(0, 0), 100);
        Due.read(x, "reckon 0 more 30; reckon 1 more 10; reckon 2 more 99; reckon 3 more 10", 0);
        DUE.is("days by four", x.days(0), 3);
        DUE.is("day 0", x.day(0, 0), 110);
        DUE.is("day 1", x.day(0, 1), 130);
        DUE.is("day 2", x.day(0, 2), 199);
        DUE.is("days by one", x.days(1), 1);
        DUE.is("day by one", x.day(1, 0), 1098);
        Due.read(x, "reckon 3 more 0; reckon 2 more 5", 0);
        DUE.is("days by four unlike ones", x.days(0), 4);
        long[] want = {100, 105, 110, 130};
        for (int i = 0; i < 4; i++) {
            DUE.is("day by unlike ones " + i, x.day(0, i), want[i]);
        }
    }

    private static void evening() {
        ShakeLetters x = withTowns(2);
        Due.read(x, "reckon 1 more 10; reckon 2 more 20", 0);
        x.letter(0, 0, 1001, -1, 0);
        x.letter(0, 0, 1100, -1, 0);
        x.letter(0, 100, 904, -1, 0);
        x.letter(0, 0, 904, -1, 10);
        x.letter(5, 0, 1100, -1, 0);
        x.letter(0, 0, 1000, -1, 0);
        x.letter(1, 0, 1104, -1, 0);
        DUE.is("evening(0)", x.evening(0), 0b1000111);
        DUE.is("evening of one that doesn't count", x.evening(3), 0b1100111);
        DUE.is("evening of a TORN one", x.evening(4), 0b1000111);
        DUE.is("evening(5)", x.evening(5), 0b100100);
        x.lose(0, true);
        DUE.is("evening of a LOST one", x.evening(0), 0b1000110);
        x.tick(1);
        DUE.is("evening when one is KNOWN", x.evening(0), 0b1001110);
    }
}

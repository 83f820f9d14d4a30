import java.util.ArrayList;
import java.util.List;

/** The boundary cases of promises 44 to 54: notes, sheets, images, look and status. */
public final class EdgesKeepingTest {
    private static final Edges E = new Edges("EdgesKeepingTest");
    private static final String WORLD = Edges.WORLD;
    private static final String FULL_OF_NOTES = Edges.times(20, "note(0)");
    private static final String SIX_FINDINGS = Edges.join("town(144) = BEYOND", "why(0) = NONE", "write(0, 0, 0) = MISSING",
            "sheet(0, 8, -1) = SIZE", "tick(0) = BEYOND", "undo() = NONE");

    public static void main(String[] args) {
        note();
        noted();
        news();
        sheet();
        write();
        copy();
        copyFindings();
        image();
        imageKeeps();
        undo();
        tear();
        look();
        status();
        lastCall();
        E.end(44, 54);
    }

    /** TOWN 0 in CELL 0, of which an EYE tells with WORD 0: 6, WORD 1: 6 or 7, WORD 2: 2. */
    private static String told() {
        return Edges.join("town(0)", Edges.text("word 0 is 6;word 1 is 6-7;word 2 is 2", 0), "letter(1, 0, 0, -1, 0)");
    }

    private static void note() {
        E.promise(44, "note");
        E.noShake("note(%)");
        E.edge("the first SHAKE", "note(0) = 0", "noted(0, 0) = 0");
        E.edge("the last SHAKE", "note(143393) = 0", "noted(0, 0) = 143393");
        E.edge("none there yet", "look(5) = 0", "note(50) = 0", "look(5) = 1");
        E.edge("one there", "note(50)", "note(50) = 1", "look(5) = 2");
        E.edge("nineteen there: the last that can be", Edges.times(19, "note(0)"), "note(143393) = 19", "look(5) = 20",
                "noted(19, 0) = 143393", "noted(18, 0) = 0");
        E.edge("full: one more", FULL_OF_NOTES, "tick(1)", "note(143393) = FULL", "look(5) = 20", "noted(19, 0) = 0");
        E.each("full: BEYOND is asked before FULL: %", "-1 4 400 144000", FULL_OF_NOTES, "note(%) = BEYOND");
        E.edge("a refused one takes no number", "note(4) = BEYOND", "note(3) = 0");
        E.edge("a change shows at once", told(), "note(40) = 0", "lose(0, true)", "note(40) = 1", "noted(0, 1) = 2",
                "noted(1, 1) = 0");
    }

    private static void noted() {
        E.promise(45, "noted");
        E.each("NOTE % (0 and 1 are there)", "-1 2 20 MIN MAX", WORLD, "noted(%, 0) = BEYOND", "noted(%, 3) = BEYOND");
        E.edge("NOTE 0 where none is yet", "noted(0, 0) = BEYOND", "noted(0, 3) = BEYOND");
        E.edge("NOTE 20 where all are there", FULL_OF_NOTES, "noted(20, 0) = BEYOND", "noted(19, 0) = 0");
        E.each("what %", "-1 4 MIN MAX", WORLD, "noted(0, %) = BEYOND", "noted(1, %) = BEYOND");
        E.edge("neither NOTE nor what", WORLD, "noted(2, 4) = BEYOND");
        E.edge("the least of all", "note(0)", "noted(0, 0) = 0", "noted(0, 1) = 0", "noted(0, 2) = 0",
                "noted(0, 3) = 0");
        E.edge("on the last DAY", Edges.times(24, "tick(400)"), "tick(399)", "note(143393)", "noted(0, 0) = 143393",
                "noted(0, 2) = 9999");
        E.edge("MISS as it was then, and now", told(), "note(40)", "noted(0, 1) = 2", "noted(0, 3) = 2",
                "lose(0, true)", "tick(1)", "noted(0, 1) = 2", "noted(0, 3) = 0", "noted(0, 2) = 0");
        E.edge("MISS as great as can be", tellingOfAll(), "note(110)", "noted(0, 1) = 176", "noted(0, 3) = 176");
        E.edge("the last NOTE", told(), Edges.times(19, "note(60)"), "tick(7)", "note(41)", "noted(19, 0) = 41",
                "noted(19, 1) = 4", "noted(19, 2) = 7", "noted(19, 3) = 4", "noted(18, 0) = 60", "noted(18, 1) = 0",
                "noted(18, 2) = 0");
    }

    /** All sixteen TOWNS in CELL 0, each with an EYE that lets 0 alone. */
    private static String tellingOfAll() {
        List<String> calls = new ArrayList<>();
        calls.add(Edges.times(16, "town(0)"));
        calls.add(Edges.text("word 0 is 0", 0));
        for (int town = 0; town < 16; town++) {
            calls.add("letter(1, " + 100 * town + ", 0, -1, 0)");
        }
        return Edges.join(calls.toArray(new String[0]));
    }

    private static void news() {
        E.promise(46, "news");
        E.edge("no NOTES", "news() = 0");
        E.edge("one, and none is another", told(), "note(40)", "news() = 0");
        E.edge("one, and it is another", told(), "note(40)", "lose(0, true)", "news() = 0b1");
        E.edge("greater by one, less by one", told(), "note(50)", "note(70)", "reread(0, 1)", "news() = 0b10",
                Edges.text("word 1 is 7", 0), "news() = 0b11");
        E.edge("another one, and again as it was", told(), "note(40)", "lose(0, true)", "news() = 1", "lose(0, false)",
                "news() = 0");
        E.edge("as great, for another reason", told(), "note(40)", "reread(0, 2)", "news() = 0");
        E.edge("another DAY alone is none", told(), "note(40)", "tick(400)", "news() = 0");
        E.edge("by a LETTER that is KNOWN from the next DAY on", told(), "lose(0, true)", "letter(1, 0, 0, -1, 10)",
                "note(40)", "news() = 0", "tick(1)", "news() = 1");
        E.edge("all twenty", told(), Edges.times(20, "note(40)"), "lose(0, true)", "news() = 1048575");
        E.edge("the last alone", told(), Edges.times(19, "note(60)"), "note(40)", "lose(0, true)", "news() = 524288");
        E.edge("one that was noted behind the change", told(), "note(40)", "lose(0, true)", "note(40)", "news() = 0b1");
    }

    private static void sheet() {
        E.promise(47, "sheet");
        E.noSheet("sheet(%, 8, 1)");
        E.noSheet("sheet(%, 0, 0)");
        E.edge("the first sheet and the last", "sheet(0, 8, 3) = 3", "sheet(3, 64, 4) = 4", "write(0, 2, 0) = 0",
                "write(3, 3, 0) = 0", "write(1, 0, 0) = MISSING", "write(2, 0, 0) = MISSING");
        for (int bits : new int[] {8, 16, 64}) {
            String of = "sheet(0, " + bits + ", ";
            E.edge("the fewest numbers, of " + bits + " bits", of + "0) = 0", "write(0, 0, 0) = BEYOND");
            E.edge("one number, of " + bits + " bits", of + "1) = 1", "write(0, 0, 0) = 0", "write(0, 1, 0) = BEYOND");
            E.edge("the most numbers, of " + bits + " bits", of + "40) = 40", "write(0, 39, 0) = 0",
                    "write(0, 40, 0) = BEYOND");
            E.each("n is %, of " + bits + " bits", "-1 -40 MIN", WORLD, of + "%) = SIZE");
            E.each("n is %, of " + bits + " bits", "41 MAX", WORLD, of + "%) = BEYOND");
        }
        E.each("other bits: %", "-1 1 2 4 7 9 15 17 24 32 48 63 65 128 -8 -16 -64 264 MIN MAX", WORLD,
                "sheet(0, %, 1) = BEYOND");
        E.edge("MISSING with the least n and the greatest", "sheet(0, 0, 0) = 0", "write(0, 0, 0) = MISSING",
                "sheet(0, 0, 40) = 0", "write(0, 0, 0) = MISSING");
        E.each("bits 0, n is %", "-1 MIN", WORLD, "sheet(0, 0, %) = SIZE");
        E.each("bits 0, n is %", "41 MAX", WORLD, "sheet(0, 0, %) = BEYOND");
        E.edge("one that was there is MISSING", Edges.row(0, 16, 5, 6), "sheet(0, 0, 2) = 0", "write(0, 0, 1) = MISSING",
                "sheet(0, 16, 2) = 2", "write(0, 0, 1) = 0", "write(0, 1, 1) = 0");
        E.edge("all are 0 anew: the first and the last", "sheet(2, 64, 40)", "write(2, 0, 7)", "write(2, 39, 7)",
                "sheet(2, 64, 40) = 40", "write(2, 0, 0) = 0", "write(2, 39, 0) = 0");
        E.edge("the sheets beside it stay", Edges.row(0, 8, 1), Edges.row(1, 8, 2), Edges.row(2, 8, 3),
                "sheet(1, 64, 40) = 40", "write(0, 0, 0) = 1", "write(2, 0, 0) = 3");
        E.edge("no sheet is asked before SIZE", WORLD, "sheet(4, 8, -1) = BEYOND", "sheet(-1, 8, -1) = BEYOND");
        E.edge("other bits are asked before SIZE", WORLD, "sheet(0, 32, -1) = BEYOND");
        E.edge("neither sheet, bits nor n", WORLD, "sheet(4, 32, -1) = BEYOND", "sheet(4, 32, 41) = BEYOND");
    }

    private static void keeps(int bits, long written, long kept) {
        E.edge("of " + bits + " bits, " + written, "sheet(0, " + bits + ", 3)", "write(0, 1, " + written + ") = 0",
                "write(0, 1, 0) = " + kept, "write(0, 0, 0) = 0", "write(0, 2, 0) = 0", "status(-1) = 0");
    }

    private static void write() {
        E.promise(48, "write");
        E.noSheet("write(%, 0, 1)");
        E.each("sheet % is MISSING", "0 1 2 3", "write(%, 0, 1) = MISSING");
        E.edge("a sheet that is MISSING again", Edges.row(0, 8, 1), "sheet(0, 0, 1)", "write(0, 0, 1) = MISSING");
        E.each("number % (0 to 2 are there)", "-1 3 40 MIN MAX", WORLD, "write(0, %, 1) = BEYOND");
        E.edge("number 0 of none", "sheet(0, 64, 0)", "write(0, 0, 1) = BEYOND");
        E.edge("number 40 of forty", "sheet(0, 64, 40)", "write(0, 40, 1) = BEYOND", "write(0, 39, 1) = 0");
        E.edge("number 40 of forty, the last sheet", "sheet(3, 64, 40)", "write(3, 40, 1) = BEYOND", "write(3, 39, 1) = 0");
        E.edge("the first number and the last", WORLD, "write(0, 0, 9) = 5", "write(0, 2, 8) = 143393",
                "write(0, 1, 7) = 66050", "write(0, 0, 0) = 9", "write(0, 1, 0) = 7", "write(0, 2, 0) = 8");
        E.each("MISSING is asked before the number: %", "-1 40 MIN MAX", "write(0, %, 1) = MISSING");
        E.edge("no sheet is asked first", "write(4, -1, 1) = BEYOND");
        for (long v : new long[] {0, 1, -1}) {
            keeps(8, v, v);
            keeps(16, v, v);
            keeps(64, v, v);
        }
        keeps(8, 127, 127);
        keeps(8, 128, -128);
        keeps(8, -128, -128);
        keeps(8, -129, 127);
        keeps(8, 255, -1);
        keeps(8, 256, 0);
        keeps(8, 383, 127);
        keeps(8, Long.MAX_VALUE, -1);
        keeps(8, Long.MIN_VALUE, 0);
        keeps(16, 128, 128);
        keeps(16, 32767, 32767);
        keeps(16, 32768, -32768);
        keeps(16, -32768, -32768);
        keeps(16, -32769, 32767);
        keeps(16, 65535, -1);
        keeps(16, 65536, 0);
        keeps(16, Long.MAX_VALUE, -1);
        keeps(16, Long.MIN_VALUE, 0);
        keeps(64, 32768, 32768);
        keeps(64, 4294967296L, 4294967296L);
        keeps(64, Long.MAX_VALUE, Long.MAX_VALUE);
        keeps(64, Long.MIN_VALUE, Long.MIN_VALUE);
        for (long finding = -1000000001; finding >= -1000000007; finding--) {
            keeps(64, finding, finding);
        }
    }

    private static void copy() {
        E.promise(49, "copy");
        E.edge("none", Edges.row(0, 8, 1, 2), Edges.row(1, 8, 3), "copy(0, 0, 1, 0, 0) = 0", "write(1, 0, 0) = 3");
        E.edge("none from behind the last to behind the last", Edges.row(0, 8, 1, 2), Edges.row(1, 8, 3),
                "copy(0, 2, 1, 1, 0) = 0", "write(1, 0, 0) = 3");
        E.edge("none of sheets of none", "sheet(0, 8, 0)", "sheet(1, 8, 0)", "copy(0, 0, 1, 0, 0) = 0",
                "copy(0, 0, 1, 0, 1) = BEYOND", "copy(0, 1, 1, 0, 0) = BEYOND", "copy(0, 0, 1, 1, 0) = BEYOND");
        E.edge("one, the last to the first", Edges.row(0, 16, 1, 2), Edges.row(3, 16, 3, 4), "copy(0, 1, 3, 0, 1) = 1",
                "write(3, 0, 0) = 2", "write(3, 1, 0) = 4", "write(0, 0, 0) = 1", "write(0, 1, 0) = 2");
        E.edge("one, the first to the last", Edges.row(0, 64, 1, 2), Edges.row(3, 64, 3, 4), "copy(3, 0, 0, 1, 1) = 1",
                "write(0, 0, 0) = 1", "write(0, 1, 0) = 3", "write(3, 0, 0) = 3");
        E.edge("all forty", "sheet(0, 64, 40)", "write(0, 0, LMIN)", "write(0, 39, LMAX)", "sheet(1, 64, 40)",
                "copy(0, 0, 1, 0, 40) = 40", "write(1, 0, 0) = -9223372036854775808",
                "write(1, 39, 0) = 9223372036854775807", "write(1, 20, 0) = 0");
        E.edge("upward in itself, as they all were", Edges.row(0, 8, 1, 2, 3, 4), "copy(0, 0, 0, 1, 3) = 3",
                "write(0, 0, 0) = 1", "write(0, 1, 0) = 1", "write(0, 2, 0) = 2", "write(0, 3, 0) = 3");
        E.edge("downward in itself, as they all were", Edges.row(0, 8, 1, 2, 3, 4), "copy(0, 1, 0, 0, 3) = 3",
                "write(0, 0, 0) = 2", "write(0, 1, 0) = 3", "write(0, 2, 0) = 4", "write(0, 3, 0) = 4");
        E.edge("the whole onto itself", Edges.row(0, 8, 1, 2), "copy(0, 0, 0, 0, 2) = 2", "write(0, 0, 0) = 1",
                "write(0, 1, 0) = 2");
        E.edge("to a sheet of more numbers", Edges.row(0, 8, 1, 2), Edges.row(1, 8, 3, 4, 5), "copy(0, 0, 1, 1, 2) = 2",
                "write(1, 0, 0) = 3", "write(1, 1, 0) = 1", "write(1, 2, 0) = 2");
    }

    private static void copyFindings() {
        E.noSheet("copy(%, 0, 0, 0, 1)");
        E.noSheet("copy(0, 0, %, 0, 1)");
        String three = Edges.join(WORLD, Edges.row(3, 64, 7, 8));
        E.edge("neither sheet", WORLD, "copy(4, 0, -1, 0, 1) = BEYOND");
        E.edge("the first is MISSING", WORLD, "copy(3, 0, 0, 0, 1) = MISSING");
        E.edge("the other is MISSING", WORLD, "copy(0, 0, 3, 0, 1) = MISSING");
        E.edge("both are MISSING", WORLD, "copy(3, 0, 3, 0, 0) = MISSING", "sheet(2, 0, 0)", "copy(2, 0, 3, 0, 0) = MISSING");
        E.each("unlike bits: sheets %", "0,0,1 1,0,0 0,0,2 2,0,0 1,0,2 2,0,1", WORLD, "copy(%, 0, 1) = KIND");
        E.edge("unlike bits, none to copy", WORLD, "copy(0, 0, 1, 0, 0) = KIND");
        E.each("from % (3 and 2 are there)", "-1 3 4 MIN MAX", three, "copy(0, %, 3, 0, 1) = BEYOND");
        E.each("to % (3 and 2 are there)", "-1 2 3 MIN MAX", three, "copy(0, 0, 3, %, 1) = BEYOND");
        E.each("n % (3 and 2 are there)", "-1 3 4 MIN MAX", three, "copy(0, 0, 3, 0, %) = BEYOND");
        E.edge("the first has not so many", three, "copy(3, 0, 0, 0, 3) = BEYOND", "copy(3, 1, 0, 0, 2) = BEYOND",
                "copy(3, 1, 0, 0, 1) = 1");
        E.edge("the other has not so many", three, "copy(0, 0, 3, 0, 3) = BEYOND", "copy(0, 0, 3, 1, 2) = BEYOND",
                "copy(0, 0, 3, 1, 1) = 1");
        E.edge("none from further than behind the last", three, "copy(0, 4, 3, 0, 0) = BEYOND",
                "copy(0, 3, 3, 0, 0) = 0");
        E.edge("none to further than behind the last", three, "copy(0, 0, 3, 3, 0) = BEYOND", "copy(0, 0, 3, 2, 0) = 0");
        E.edge("from and n that would wrap around", three, "copy(0, MAX, 3, 0, MAX) = BEYOND",
                "copy(0, MAX, 3, 0, 1) = BEYOND", "copy(0, 1, 3, 0, MAX) = BEYOND", "copy(0, 0, 3, MAX, MAX) = BEYOND",
                "copy(0, MIN, 3, 0, MIN) = BEYOND", "copy(0, MIN, 3, MIN, MIN) = BEYOND");
        E.edge("no sheet is asked before MISSING", WORLD, "copy(3, 0, 4, 0, 1) = BEYOND", "copy(4, 0, 3, 0, 1) = BEYOND");
        E.edge("no sheet is asked before KIND", WORLD, "copy(0, 0, 4, 0, 1) = BEYOND");
        E.edge("MISSING is asked before KIND", WORLD, "copy(2, 0, 3, 0, 1) = MISSING", "copy(3, 0, 2, 0, 1) = MISSING");
        E.edge("MISSING is asked before from, to and n", WORLD, "copy(0, -1, 3, -1, -1) = MISSING");
        E.edge("KIND is asked before from, to and n", WORLD, "copy(0, -1, 1, 0, 1) = KIND", "copy(0, 0, 1, -1, 1) = KIND",
                "copy(0, 0, 1, 0, -1) = KIND", "copy(0, 0, 1, 0, 40) = KIND");
    }

    private static void image() {
        E.promise(50, "image");
        E.edge("of a new object", "image() = 1", "town(5)", "undo() = 0", "look(0) = 0");
        E.edge("once more", "image() = 1", "image() = 1", "undo() = 0");
        E.edge("the latest is kept", "tick(1)", "image() = 1", "tick(1)", "image() = 1", "tick(1)", "undo() = 2",
                "undo() = 2");
        E.alike("it changes nothing but what is kept", Edges.join(WORLD, "tear()", "image()"),
                Edges.join(WORLD, "image()"));
        E.alike("what is changed behind it isn't kept", Edges.join(WORLD, "image()", "undo()"),
                Edges.join(WORLD, "image()", CHANGES, "undo()"));
        E.edge("THE TAPE is not kept", "feed(0, 2)", "image()", "wipe()", "undo() = 0", "look(7) = 0", "feed(0, 3)",
                "undo() = 0", "look(7) = 3");
        E.edge("sheets are not kept", Edges.row(0, 8, 5), "image()", "write(0, 0, 6)", "sheet(1, 16, 2)", "undo() = 0",
                "write(0, 0, 0) = 6", "write(1, 1, 0) = 0");
        E.edge("a sheet that is MISSING stays so", Edges.row(0, 8, 5), "image()", "sheet(0, 0, 0)", "undo() = 0",
                "write(0, 0, 0) = MISSING");
        E.edge("a full object", FULL, "image() = 1", "undo() = 9999", "look(0) = 16", "look(1) = 30", "look(4) = 8",
                "look(5) = 20", "told(29, 2) = 15", "noted(19, 0) = 143393", "of(15, 0) = 143", "law(4) = 20");
    }

    /** As many TOWNS, LETTERS, TEXTS, NOTES and DAYS as can be; the last of each is unlike the others. */
    private static final String FULL = Edges.join(Edges.times(15, "town(0)"), "town(143)",
            Edges.times(7, Edges.text("falls 3", 0)), Edges.text("falls 20", 0),
            Edges.times(29, "letter(0, 0, 0, -1, 0)"), "letter(4, 1515, 9994, -1, 5)", Edges.times(19, "note(0)"),
            "note(143393)", Edges.times(24, "tick(400)"), "tick(399)");
    private static final String CHANGES = Edges.join("ground(5, 1)", "ground(66, 0)", "ground(100, 2)", "town(7)",
            "houses(0, 0, 1)", "houses(2, 5, 1)", "houses(4, 3, 1)", "letter(2, 0, 1, 0, 10)", "lose(0, true)",
            "lose(6, false)", "reread(4, 9)", "wipe()", Edges.text("falls 19;word 0 is 1;reckon 1 more 3", 0), "note(81)",
            "tick(90)", Edges.fed("falls 9"));

    /** Each thing that is kept, by a change of it alone: it shows, and undo() takes it back. */
    private static void imageKeeps() {
        String[] changes = {"ground(0, 1)", "ground(66, 2)", "ground(143, 0)", "town(0)", "houses(0, 0, 1)",
            "houses(0, 1, 1)", "houses(0, 2, 1)", "houses(0, 3, 1)", "houses(0, 4, 1)", "houses(3, 5, 1)", "tick(1)",
            "letter(0, 0, 0, -1, 0)", "lose(0, true)", "lose(6, false)", "lose(7, true)", "reread(0, 9)", "reread(7, 9)",
            "note(0)"};
        for (String change : changes) {
            E.unlike(change + " is seen", Edges.join(WORLD, "image()"), Edges.join(WORLD, "image()", change));
            E.alike(change + " is taken back", Edges.join(WORLD, "image()"),
                    Edges.join(WORLD, "image()", change, "undo()"));
        }
        String tape = Edges.fed("falls 9");
        E.unlike("text() is seen", Edges.join(WORLD, "image()"), Edges.join(WORLD, "image()", "text(0)", tape));
        E.alike("text() is taken back", Edges.join(WORLD, "image()"),
                Edges.join(WORLD, "image()", "text(0)", tape, "undo()"));
        E.unlike("a TEXT from a later DAY on is seen", Edges.join(WORLD, "image()"),
                Edges.join(WORLD, "image()", "text(90)", tape));
        E.alike("a TEXT from a later DAY on is taken back", Edges.join(WORLD, "image()"),
                Edges.join(WORLD, "image()", "text(90)", tape, "undo()"));
        E.unlike("built() is seen", Edges.join(WORLD, Edges.row(3, 8, 1, 2, 3), "image()"),
                Edges.join(WORLD, Edges.row(3, 8, 1, 2, 3), "image()", "built(3, 3)"));
        E.alike("built() is taken back", Edges.join(WORLD, Edges.row(3, 8, 1, 2, 3), "image()"),
                Edges.join(WORLD, Edges.row(3, 8, 1, 2, 3), "image()", "built(3, 3)", "undo()"));
    }

    private static void undo() {
        E.promise(51, "undo");
        E.edge("nothing is kept yet", "undo() = NONE", "look(6) = 0");
        E.edge("nothing is kept yet, where much is there", FULL, "undo() = NONE", "look(1) = 30");
        E.edge("nothing is kept any more", WORLD, "tear()", "undo() = NONE", "look(6) = 5");
        E.edge("the open DAY: the first", "image()", "tick(400)", "undo() = 0", "look(6) = 0");
        E.edge("the open DAY: the last", Edges.times(24, "tick(400)"), "tick(399)", "image()", "undo() = 9999",
                "tick(1) = FULL");
        E.edge("nothing changed since", WORLD, "undo() = 2", "undo() = 2");
        E.edge("what was kept stays", "image()", "tick(5)", "undo() = 0", "tick(7) = 7", "undo() = 0");
        E.alike("again and again", Edges.join(WORLD, "undo()"),
                Edges.join(WORLD, "undo()", CHANGES_OF_THREE, "undo()", CHANGES_OF_THREE, "undo()"));
        E.edge("from full to nothing", "image()", FULL, "undo() = 0", "look(0) = 0", "look(1) = 0", "look(2) = 0",
                "look(3) = 0", "look(4) = 0", "look(5) = 0", "look(6) = 0", "town(0) = 0", "letter(0, 0, 0, -1, 0) = 0",
                "note(0) = 0");
        E.edge("what was FULL isn't any more", Edges.times(15, "town(0)"), "image()", "town(0)", "town(0) = FULL",
                "undo() = 0", "town(0) = 15", "town(0) = FULL");
        E.edge("LETTERS that were FULL", "town(0)", Edges.times(29, "letter(0, 0, 0, -1, 0)"), "image()",
                "letter(5, 0, 0, -1, 0)", "letter(0, 0, 0, -1, 0) = FULL", "undo() = 0", "counts(29) = BEYOND",
                "letter(1, 0, 0, -1, 0) = 29", "told(29, 0) = 1");
        E.edge("TEXTS that were FULL", Edges.times(7, Edges.text("falls 3", 0)), "image()", Edges.text("falls 9", 0),
                "undo() = 0", "law(4) = 3", Edges.fed("falls 8"), "text(0) = 7", "law(4) = 8");
        E.edge("NOTES that were FULL", Edges.times(19, "note(0)"), "image()", "note(1)", "note(2) = FULL", "undo() = 0",
                "noted(19, 0) = BEYOND", "note(3) = 19", "noted(19, 0) = 3");
        E.edge("a LOST one that is gone doesn't come again as LOST", "town(0)", "image()", "letter(0, 0, 0, -1, 0)",
                "lose(0, true)", "undo() = 0", "letter(0, 0, 0, -1, 0) = 0", "told(0, 6) = 0", "counts(0) = 1",
                "look(3) = 0");
        E.edge("HOUSES of a TOWN that is gone don't come again", "image()", "town(0)", "houses(0, 0, 5)",
                "houses(0, 5, 6)", "undo() = 0", "town(0) = 0", "of(0, 3) = 0", "of(0, 4) = 0");
        E.edge("a RULE of a TEXT that is gone doesn't come again", "image()", Edges.text("falls 9;word 3 is 1", 0),
                "undo() = 0", Edges.text("falls 8", 0), "means(3) = 4095", "law(4) = 8");
        E.edge("no finding is taken back", "image()", "town(-1) = BEYOND", "undo() = 0", "status(0) = 1",
                "status(-1) = 1");
    }

    /** Changes that can be made where TOWNS 0 to 2, LETTERS 0 to 6 and NOTE 0 are. */
    private static final String CHANGES_OF_THREE = Edges.join("ground(5, 1)", "ground(100, 2)", "town(7)",
            "houses(3, 3, 1)", "houses(0, 0, 9)", "letter(2, 300, 1, 0, 10)", "lose(7, true)", "lose(0, true)",
            "reread(4, 9)", "wipe()", Edges.text("falls 19;word 0 is 1", 0), "note(81)", "tick(90)", Edges.fed("falls 9"));

    private static void tear() {
        E.promise(52, "tear");
        E.edge("nothing is kept yet", "tear() = 0", "undo() = NONE");
        E.edge("something is kept", "image()", "tear() = 1", "undo() = NONE");
        E.edge("nothing is kept any more", "image()", "tear() = 1", "tear() = 0");
        E.edge("two images are one", "image()", "image()", "tear() = 1", "tear() = 0", "undo() = NONE");
        E.edge("behind undo() it is still kept", "image()", "undo()", "tear() = 1", "tear() = 0");
        E.edge("an image behind it is kept", "image()", "tear()", "tick(3)", "image()", "tick(1)", "undo() = 3",
                "tear() = 1");
        E.alike("it changes nothing else", Edges.join(WORLD, "tear()", "image()"), Edges.join(WORLD, "image()"));
        E.alike("it changes nothing else, twice", Edges.join(WORLD, "tear()"), Edges.join(WORLD, "tear()", "tear()"));
        E.edge("it changes nothing that look() tells", WORLD, "tear() = 1", "look(0) = 4", "look(1) = 8", "look(3) = 2",
                "look(4) = 2", "look(5) = 2", "look(6) = 5", "look(7) = 7");
    }

    private static void look() {
        E.promise(53, "look");
        E.each("what %", "-1 8 MIN MAX", WORLD, "look(%) = BEYOND");
        E.each("what % of a new object", "0 1 2 3 4 5 6 7", "look(%) = 0");
        E.edge("one of each", "town(0)", "letter(0, 0, 0, -1, 0)", Edges.text("falls 3", 0), "note(0)", "tick(1)",
                "feed(0, 1)", "look(0) = 1", "look(1) = 1", "look(2) = 1", "look(3) = 0", "look(4) = 1", "look(5) = 1",
                "look(6) = 1", "look(7) = 1", "lose(0, true)", "look(1) = 1", "look(2) = 0", "look(3) = 1");
        E.edge("full", FULL, Edges.times(30, "feed(0, 4)"), "look(0) = 16", "look(1) = 30", "look(2) = 30",
                "look(3) = 0", "look(4) = 8", "look(5) = 20", "look(6) = 9999", "look(7) = 120");
        List<String> all = new ArrayList<>();
        for (int letter = 0; letter < 30; letter++) {
            all.add("lose(" + letter + ", true)");
        }
        E.edge("all are LOST", "town(0)", Edges.times(30, "letter(0, 0, 0, -1, 0)"),
                Edges.join(all.toArray(new String[0])), "look(1) = 30", "look(2) = 0", "look(3) = 30");
        E.edge("those that COUNT: TORN, COPIED, not KNOWN yet", "town(0)", "letter(0, 0, 0, -1, 0)",
                "letter(5, 0, 0, -1, 0)", "letter(3, 0, 0, 0, 0)", "letter(0, 0, 0, -1, 10)", "look(2) = 1", "tick(1)",
                "look(2) = 2", "lose(0, true)", "look(2) = 2");
        E.edge("TEXTS that aren't in force", Edges.text("falls 3", 9999), "look(4) = 1");
    }

    private static void status() {
        E.promise(54, "status");
        E.each("which %: BEYOND, counted from then on", "-2 7 MIN MAX", WORLD, "status(%) = BEYOND", "status(0) = 1",
                "status(-1) = 1", "status(%) = BEYOND", "status(0) = 2");
        E.each("which % of a new object", "-1 0 1 2 3 4 5 6", "status(%) = 0");
        E.edge("one BEYOND", "town(144) = BEYOND", "status(0) = 1", "status(1) = 0", "status(-1) = 1");
        E.edge("one FULL", Edges.times(20, "note(0)"), "note(0) = FULL", "status(1) = 1", "status(0) = 0",
                "status(2) = 0", "status(-1) = 1");
        E.edge("one KIND", "town(0)", "letter(0, 0, 0, -1, 0)", "as(0, 1) = KIND", "status(2) = 1", "status(1) = 0",
                "status(3) = 0", "status(-1) = 1");
        E.edge("one NONE", "undo() = NONE", "status(3) = 1", "status(2) = 0", "status(4) = 0", "status(-1) = 1");
        E.edge("one STATE", "town(0)", "letter(0, 0, 0, -1, 0)", "lose(0, true)", "reread(0, 0) = STATE", "status(4) = 1",
                "status(3) = 0", "status(5) = 0", "status(-1) = 1");
        E.edge("one MISSING", "write(0, 0, 0) = MISSING", "status(5) = 1", "status(4) = 0", "status(6) = 0",
                "status(-1) = 1");
        E.edge("one SIZE", "sheet(0, 8, -1) = SIZE", "status(6) = 1", "status(5) = 0", "status(-1) = 1");
        E.edge("some of each", SIX_FINDINGS, "status(-1) = 6", "status(0) = 2", "status(1) = 0", "status(2) = 0",
                "status(3) = 2", "status(4) = 0", "status(5) = 1", "status(6) = 1");
        E.edge("undo() and tear() take none back", "image()", "town(144) = BEYOND", "undo()", "status(0) = 1", "tear()",
                "status(0) = 1");
        E.edge("image() forgets none", "town(144) = BEYOND", "image()", "town(144) = BEYOND", "undo()", "status(0) = 2");
        E.edge("a FAULT is none", "text(0) = -1", "status(-1) = 0");
        E.edge("a number of a sheet that looks like one is none", "sheet(0, 64, 1)", "write(0, 0, -1000000003)",
                "write(0, 0, 0) = -1000000003", "status(2) = 0", "status(-1) = 0");
        E.edge("odds() answers one too", "odds(4, 0) = BEYOND", "status(0) = 1");
        E.edge("write() answers one too", "write(4, 0, 0) = BEYOND", "status(0) = 1");
    }

    /** Runs that are as long as the document lets: what changes nothing is asked elsewhere. */
    private static void lastCall() {
        ShakeLetters x = new ShakeLetters();
        for (int i = 0; i < 510; i++) {
            x.town(144);
        }
        E.is("as many as can be, BEYOND", x.status(0), 510);
        E.is("as many as can be, all, by the last call", x.status(-1), 510);
        ShakeLetters y = new ShakeLetters();
        for (int i = 0; i < 511; i++) {
            y.status(7);
        }
        E.is("as many of its own as can be, by the last call", y.status(0), 511);
    }
}

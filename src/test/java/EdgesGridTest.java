import java.util.ArrayList;
import java.util.List;

/** The boundary cases of promises 37 to 43: the grid. */
public final class EdgesGridTest {
    private static final Edges E = new Edges("EdgesGridTest");
    private static final String WORLD = Edges.WORLD;
    private static final String ALL_SHARES = "0 1 50 99 100";
    /** TOWN 0 in CELL 0 with an empty SPAN: every MISS is 12. */
    private static final String EMPTY = Edges.join("town(0)", Edges.text("word 0 is 0;word 1 is 1", 0),
            "letter(1, 0, 0, -1, 0)", "letter(1, 1, 0, -1, 0)");
    /**
     * TOWN 0 in CELL 0 lets 11 alone, FALLS 1: in a CELL with dx * dx + dy * dy above 38 every WEIGHT is 0, in the
     * 37 others none of them is.
     */
    private static final String NEAR = Edges.join("town(0)", Edges.text("word 0 is 11;falls 1", 0),
            "letter(1, 0, 0, -1, 0)");

    /** Three TOWNS in CELL 0, FALLS 1: of DEPTH 3 only 370, 1380, 12380 and 13390 have a WEIGHT, and that is 1. */
    private static final String LIGHT = Edges.join("town(0)", "town(0)", "town(0)",
            Edges.text("word 0 is 0;word 1 is 10;falls 1", 0), "letter(1, 0, 0, -1, 0)", "letter(1, 101, 0, -1, 0)",
            "letter(1, 201, 0, -1, 0)");

    /** A SHAKE in a CELL 144, if there were one, would hit both TOWNS; none of THE GRID does. */
    private static final String OUTSIDE = Edges.join("town(132)", "town(11)", "ground(11, 2)",
            Edges.text("word 0 is 11;word 1 is 0;falls 20", 0), "letter(1, 0, 0, -1, 0)", "letter(1, 101, 0, -1, 0)");

    public static void main(String[] args) {
        weight();
        odds();
        best();
        narrow();
        judge();
        judgeFindings();
        next();
        nextAtTheEnds();
        without();
        E.end(37, 43);
    }

    private static String lets(String steps) {
        return Edges.join("town(0)", Edges.text("word 0 is " + steps, 0), "letter(1, 0, 0, -1, 0)");
    }

    private static void weight() {
        E.promise(37, "weight");
        E.noShake("weight(%)");
        E.edge("no TOWNS: the first SHAKE and the last", "weight(0) = 1048576", "weight(143393) = 1048576");
        long weight = 1048576;
        for (int miss = 0; miss <= 10; miss++) {
            E.edge("MISS " + miss, lets("0"), "miss(" + 10 * miss + ", -1) = " + miss,
                    "weight(" + 10 * miss + ") = " + weight);
            weight /= 4;
        }
        E.edge("MISS 11", lets("0"), "miss(110, -1) = 11", "weight(110) = 0");
        E.edge("MISS 12: an empty SPAN", EMPTY, "miss(0, -1) = 12", "weight(0) = 0");
        String two = Edges.join(lets("0"), "town(0)", "letter(1, 100, 0, -1, 0)");
        E.edge("MISS 10 of two TOWNS", two, "miss(50, -1) = 10", "weight(50) = 1");
        E.edge("MISS 12 of two TOWNS", two, "miss(60, -1) = 12", "weight(60) = 0");
        E.edge("a change shows at once", "town(66)", Edges.text("word 0 is 6", 0), "letter(1, 0, 0, -1, 0)",
                "weight(66060) = 1048576", "ground(66, 1)", "weight(66060) = 262144", "lose(0, true)",
                "weight(66060) = 1048576");
        E.edge("a MISS as great as can be", tellingOfAll("0"), "miss(110, -1) = 176", "weight(110) = 0");
    }

    /** All sixteen TOWNS in CELL 0, each with an EYE. */
    private static String tellingOfAll(String steps) {
        List<String> calls = new ArrayList<>();
        calls.add(Edges.times(16, "town(0)"));
        calls.add(Edges.text("word 0 is " + steps, 0));
        for (int town = 0; town < 16; town++) {
            calls.add("letter(1, " + 100 * town + ", 0, -1, 0)");
        }
        return Edges.join(calls.toArray(new String[0]));
    }

    private static void odds() {
        E.promise(38, "odds");
        E.noDepth("odds(%, 0)");
        E.noDepth("odds(%, -1)");
        E.each("CELL %", "-2 144 MIN MAX", WORLD, "odds(0, %) = BEYOND", "odds(3, %) = BEYOND");
        E.edge("neither DEPTH nor CELL", WORLD, "odds(4, 144) = BEYOND", "odds(-1, -2) = BEYOND");
        E.each("no TOWNS: each is as great as can be, DEPTH %", "0 1 2 3", "odds(%, 0) = 41943040",
                "odds(%, 143) = 41943040");
        E.each("no TOWNS: all together go beyond 32 bits, DEPTH %", "0 1 2 3", "odds(%, -1) = 6039797760");
        E.each("all WEIGHTS are 0, DEPTH %", "0 1 2 3", EMPTY, "odds(%, 0) = 0", "odds(%, 143) = 0", "odds(%, -1) = 0");
        E.edge("the first CELL and the last", lets("0"), "odds(0, 0) = 1398101", "odds(0, 143) = 41943040",
                "odds(0, -1) = 3212070744");
        E.edge("the last DEPTH", lets("0"), "odds(3, 0) = 7689557", "odds(3, -1) = 4070729407");
        E.edge("a CELL whose WEIGHTS are all 0", NEAR, "odds(0, 143) = 0", "odds(0, 0) = 30758229",
                "odds(0, 73) = 5", "odds(0, -1) = 473962537");
        E.edge("WEIGHTS as light as can be", LIGHT, "odds(3, -1) = 4", "odds(3, 0) = 1", "odds(3, 1) = 1",
                "odds(3, 12) = 1", "odds(3, 13) = 1", "odds(3, 2) = 0", "weight(373) = 1", "weight(13393) = 1",
                "weight(363) = 0", "weight(383) = 0");
        E.edge("GROUND lifts the least STRENGTH", lets("0"), "ground(0, 2)", "odds(0, 0) = 87381");
        E.edge("GROUND lifts the least STRENGTH, of two TOWNS", lets("0"), "ground(0, 2)", "town(0)",
                "letter(1, 100, 0, -1, 0)", "odds(0, 0) = 4369");
        E.edge("the least WEIGHT of a CELL", NEAR, "odds(1, 29) = 1", "odds(1, 30) = 0", "odds(1, 41) = 0");
        E.edge("a change shows at once", lets("0"), "odds(0, 0) = 1398101", "lose(0, true)", "odds(0, 0) = 41943040",
                "lose(0, false)", "odds(0, -1) = 3212070744", "lose(0, true)", "odds(0, -1) = 6039797760");
        E.edge("all sixteen TOWNS", tellingOfAll("0"), "odds(0, 0) = 1048576", "odds(0, 143) = 41943040");
    }

    private static void best() {
        E.promise(39, "best");
        E.noDepth("best(%)");
        E.each("no TOWNS: the least number of DEPTH %", "0 1 2 3", "best(%) = %");
        E.each("every MISS is 12: the least number of DEPTH %", "0 1 2 3", EMPTY, "best(%) = %");
        E.edge("the first SHAKE", lets("0"), "best(0) = 0");
        String last = Edges.join("town(143)", "town(142)", "town(131)", "town(141)", "town(119)",
                Edges.text("word 0 is 11;word 1 is 8;falls 1", 0), "letter(1, 0, 0, -1, 0)", "letter(1, 100, 0, -1, 0)",
                "letter(1, 200, 0, -1, 0)", "letter(1, 301, 0, -1, 0)", "letter(1, 401, 0, -1, 0)");
        E.edge("the last SHAKE", last, "best(3) = 143393", "miss(143393, -1) = 0");
        E.edge("the last CELL", "town(143)", "town(131)", "town(142)", Edges.text("word 0 is 11;word 1 is 10;falls 1", 0),
                "letter(1, 0, 0, -1, 0)", "letter(1, 101, 0, -1, 0)", "letter(1, 201, 0, -1, 0)", "best(3) = 143383");
        E.edge("of like ones the lesser CELL", "town(143)", Edges.text("word 0 is 11;falls 1", 0),
                "letter(1, 0, 0, -1, 0)", "miss(131393, -1) = 0", "miss(142393, -1) = 0", "miss(143383, -1) = 0",
                "best(3) = 131393");
        E.edge("of like ones the lesser STRENGTH", lets("5-7"), "miss(60, -1) = 0", "miss(70, -1) = 0", "best(0) = 50");
        E.edge("a change shows at once", lets("5-7"), "best(0) = 50", "reread(0, 9)", "best(0) = 0");
        E.edge("GROUND lifts the least STRENGTH", lets("0"), "ground(0, 2)", "best(0) = 3000",
                Edges.text("ground 2 more 9", 0), "best(0) = 6000");
        E.edge("no CELL behind the last, though it would miss less", OUTSIDE, "best(0) = 132100", "miss(132100, -1) = 1");
        E.edge("none has MISS 0", lets("0"), "town(0)", Edges.text("word 1 is 2", 0), "letter(1, 101, 0, -1, 0)",
                "best(0) = 0", "miss(0, -1) = 2", "miss(10, -1) = 2");
    }

    private static void narrow() {
        E.promise(40, "narrow");
        E.noDepth("narrow(%, 50)");
        E.each("share %", "-1 101 MIN MAX", WORLD, "narrow(0, %) = BEYOND", "narrow(3, %) = BEYOND");
        E.edge("neither DEPTH nor share", WORLD, "narrow(4, 101) = BEYOND");
        E.edge("the least share", "narrow(0, 0) = 0", "narrow(3, 0) = 0");
        E.edge("the greatest share: all CELLS", "narrow(0, 100) = 144", "narrow(3, 100) = 144");
        E.edge("at least: just so many", "narrow(0, 25) = 36", "narrow(0, 50) = 72", "narrow(0, 75) = 108");
        E.edge("at least: one more than cut", "narrow(0, 1) = 2", "narrow(0, 2) = 3", "narrow(0, 51) = 74",
                "narrow(0, 99) = 143");
        E.edge("one CELL has enough, and not enough", NEAR, "narrow(0, 1) = 1", "narrow(0, 6) = 1", "narrow(0, 7) = 2");
        E.edge("four CELLS of WEIGHT 1", LIGHT, "narrow(3, 0) = 0", "narrow(3, 1) = 1", "narrow(3, 25) = 1",
                "narrow(3, 26) = 2", "narrow(3, 50) = 2", "narrow(3, 51) = 3", "narrow(3, 75) = 3", "narrow(3, 76) = 4",
                "narrow(3, 100) = 4");
        E.edge("the last CELL that is needed has WEIGHT 1", NEAR, "narrow(1, 100) = 30");
        E.edge("a change shows at once", NEAR, "narrow(0, 100) = 37", "lose(0, true)", "narrow(0, 100) = 144");
        E.edge("CELLS with WEIGHT 0 aren't needed", NEAR, "narrow(0, 99) = 27", "narrow(0, 100) = 37");
        E.each("all WEIGHTS are 0: share %", ALL_SHARES, EMPTY, "narrow(0, %) = NONE", "narrow(3, %) = NONE");
        E.each("BEYOND is asked before NONE: share %", "-1 101", EMPTY, "narrow(0, %) = BEYOND");
        E.each("BEYOND is asked before NONE: DEPTH %", "-1 4", EMPTY, "narrow(%, 50) = BEYOND");
    }

    private static String near() {
        StringBuilder all = new StringBuilder();
        for (int cell = 0; cell < 144; cell++) {
            int far = (cell % 12) * (cell % 12) + (cell / 12) * (cell / 12);
            all.append(far <= 38 ? cell + " " : "");
        }
        return all.toString().trim();
    }

    private static long[] numbers(String cells) {
        String[] parts = cells.split(" ");
        long[] all = new long[parts.length];
        for (int i = 0; i < parts.length; i++) {
            all[i] = Long.parseLong(parts[i]);
        }
        return all;
    }

    private static long[] upward(int n, int first) {
        long[] all = new long[n];
        for (int i = 0; i < n; i++) {
            all[i] = first + i;
        }
        return all;
    }

    private static void judge() {
        E.promise(41, "judge");
        E.edge("a sheet of none", "sheet(0, 8, 0)", "judge(0, 0) = 0");
        E.edge("one CELL of 144", Edges.row(0, 64, 0), "judge(0, 0) = 0");
        E.edge("two CELLS of 144", Edges.row(0, 64, 0, 143), "judge(0, 0) = 1", "judge(3, 0) = 1");
        E.edge("a full sheet: 40 CELLS of 144", Edges.row(0, 64, upward(40, 104)), "judge(0, 0) = 27");
        E.edge("a full last sheet", Edges.row(3, 16, upward(40, 0)), "judge(0, 3) = 27");
        E.edge("36 CELLS of 144: just a fourth", Edges.row(0, 64, upward(36, 0)), "judge(0, 0) = 25");
        E.edge("35 CELLS of 144: cut", Edges.row(0, 64, upward(35, 0)), "judge(0, 0) = 24");
        E.edge("one CELL told forty times counts once", Edges.row(0, 64, new long[40]), "judge(0, 0) = 0");
        E.edge("one CELL told twice amid others", Edges.row(0, 64, 5, 6, 5), "judge(0, 0) = 1", "write(0, 1, 5)",
                "judge(0, 0) = 0");
        E.edge("all WEIGHTS lie in them", NEAR, Edges.row(0, 64, numbers(near())), "judge(0, 0) = 100");
        E.edge("all but a little", NEAR, Edges.row(0, 64, numbers(near())), "write(0, 36, 0)", "judge(0, 0) = 99");
        E.edge("four CELLS of WEIGHT 1", LIGHT, "sheet(0, 8, 4)", "judge(3, 0) = 25", "write(0, 3, 13)",
                "judge(3, 0) = 50", "write(0, 2, 12)", "judge(3, 0) = 75", "write(0, 1, 1)", "judge(3, 0) = 100");
        E.edge("a sheet of none beside four CELLS of WEIGHT 1", LIGHT, "sheet(0, 8, 0)", "judge(3, 0) = 0");
        E.edge("CELLS of WEIGHT 0 beside four of WEIGHT 1", LIGHT, Edges.row(0, 8, 2, 3, 14), "judge(3, 0) = 0");
        E.edge("no WEIGHT lies in them", NEAR, Edges.row(0, 64, 143, 142), "judge(0, 0) = 0");
        E.edge("one CELL of much WEIGHT", NEAR, Edges.row(0, 8, 0), "judge(0, 0) = 6");
        E.edge("a change shows at once", NEAR, Edges.row(0, 8, 0), "judge(0, 0) = 6", "lose(0, true)", "judge(0, 0) = 0",
                "write(0, 0, 5)", "lose(0, false)", "judge(0, 0) = 0");
        E.edge("of 8 bits: 127", Edges.row(0, 8, 127, 1), "judge(0, 0) = 1");
    }

    private static void judgeFindings() {
        E.noDepth("judge(%, 0)");
        E.noSheet("judge(0, %)");
        E.each("sheet % is MISSING", "0 1 2 3", "judge(0, %) = MISSING");
        E.edge("a sheet that is MISSING again", Edges.row(0, 64, 0), "sheet(0, 0, 1)", "judge(0, 0) = MISSING");
        for (int place : new int[] {0, 1, 39}) {
            String write = "write(0, " + place + ", %)";
            E.each("number " + place + " of forty is no CELL: %",
                    "-1 144 -143 LMIN LMAX 2147483648 4294967296 -4294967295", WORLD, "sheet(0, 64, 40)", write,
                    "judge(0, 0) = BEYOND");
            E.each("number " + place + " of forty is the first CELL: %", "0", "sheet(0, 64, 40)", write,
                    "judge(0, 0) = 0");
            E.each("number " + place + " of forty is the last CELL: %", "143", "sheet(0, 64, 40)", write,
                    "judge(0, 0) = 1");
        }
        E.edge("of 8 bits, 143 is below 0", Edges.row(0, 8, 143), "judge(0, 0) = BEYOND");
        E.edge("what a sheet had before counts no more", Edges.row(0, 64, 5, 999), "sheet(0, 64, 1)", "judge(0, 0) = 0");
        E.edge("no DEPTH is asked before MISSING", WORLD, "judge(4, 3) = BEYOND", "judge(-1, 3) = BEYOND");
        E.edge("neither DEPTH nor sheet", WORLD, "judge(4, 4) = BEYOND");
        E.each("all WEIGHTS are 0, DEPTH %", "0 3", EMPTY, Edges.row(0, 64, 0), "judge(%, 0) = NONE");
        E.edge("all WEIGHTS are 0, a sheet of none", EMPTY, "sheet(0, 64, 0)", "judge(0, 0) = NONE");
        E.edge("no DEPTH is asked before NONE", EMPTY, Edges.row(0, 64, 0), "judge(4, 0) = BEYOND");
        E.edge("no sheet is asked before NONE", EMPTY, "judge(0, 4) = BEYOND");
        E.edge("MISSING is asked before NONE", EMPTY, "judge(0, 0) = MISSING");
        E.each("no CELL is asked before NONE: %", "-1 144", EMPTY, "sheet(0, 64, 1)", "write(0, 0, %)",
                "judge(0, 0) = BEYOND");
    }

    private static void next() {
        E.promise(42, "next");
        E.noDepth("next(%)");
        E.each("no TOWNS, DEPTH %", "0 1 2 3", "next(%) = NONE");
        E.each("no TOWNS: BEYOND is asked before NONE: DEPTH %", "-1 4", "next(%) = BEYOND");
        E.edge("one TOWN, all STEPS", "town(0)", "next(0) = 0", "next(3) = 0");
        E.edge("one TOWN, two STEPS", lets("5-6"), "next(0) = 0");
        E.edge("one TOWN, one STEP", lets("5"), "next(0) = NONE");
        E.edge("one TOWN, no STEP", EMPTY, "next(0) = NONE");
        E.edge("of like ones the least", "town(65)", "town(65)", "next(0) = 0");
        E.edge("of like ones the least, behind one that may not be asked", lets("5"), "town(65)", "town(65)",
                "next(0) = 1");
        E.edge("the fewest, not the least", "town(65)", "town(65)", "town(0)", "next(0) = 2");
        E.edge("the fewest of all, like ones", "town(65)", "town(0)", "town(143)", "next(0) = 1");
        E.edge("the first that has two STEPS", Edges.join(lets("5"), "town(0)", Edges.text("word 1 is 5-6", 0),
                "letter(1, 101, 0, -1, 0)"), "next(0) = 1");
        E.edge("a change shows at once", "town(65)", "town(0)", "next(0) = 1", Edges.text("word 0 is 5", 0),
                "letter(1, 100, 0, -1, 0)", "next(0) = 0");
        E.edge("what an earlier call counted is forgotten", "town(0)", "town(65)", "next(0) = 0",
                Edges.text("word 0 is 5-6", 0), "letter(1, 100, 0, -1, 0)", "next(0) = 1");
        E.edge("the last TOWN alone", tellingOfAll("5"), "lose(15, true)", "next(0) = 15");
        E.edge("the last TOWN too has one STEP", tellingOfAll("5"), "next(0) = NONE");
        E.edge("one with an empty SPAN isn't asked", EMPTY, "town(65)", "next(0) = 1");
    }

    /** TOWNS, each told as its CELL and the first and the last STEP that an EYE lets. */
    private static void asksFor(String name, int falls, int depth, int due, int... towns) {
        StringBuilder rules = new StringBuilder("falls " + falls);
        StringBuilder calls = new StringBuilder();
        for (int i = 0; i < towns.length / 3; i++) {
            rules.append(";word " + i + " is " + towns[3 * i + 1] + "-" + towns[3 * i + 2]);
            calls.append("; town(" + towns[3 * i] + "); letter(1, " + 101 * i + ", 0, -1, 0)");
        }
        E.edge(name, Edges.text(rules.toString(), 0) + calls, "next(" + depth + ") = " + due);
    }

    /** Runs in which one SHAKE more or less at an end of THE GRID would change the answer. */
    private static void nextAtTheEnds() {
        asksFor("the first STRENGTH is in THE GRID", 20, 0, 0, 65, 0, 1, 66, 0, 11);
        asksFor("the last STRENGTH is in THE GRID", 4, 3, 1, 143, 8, 11, 12, 0, 1, 1, 3, 11);
        asksFor("no STRENGTH behind the last is", 1, 3, 0, 66, 5, 6, 143, 5, 11);
        asksFor("the first CELL is in THE GRID, and none behind the last", 20, 0, 0, 132, 0, 11, 0, 0, 11);
        asksFor("the last CELL is in THE GRID", 20, 0, 0, 12, 0, 11, 132, 8, 11);
        asksFor("no CELL before the first is", 4, 0, 1, 12, 8, 9, 143, 0, 11);
    }

    private static void without() {
        E.promise(43, "without");
        E.noDepth("without(%, 0)");
        E.noLetter("without(0, %)");
        E.edge("neither DEPTH nor LETTER", WORLD, "without(4, 8) = BEYOND");
        E.edge("the only one", EMPTY, "lose(1, true)", "without(0, 0) = 0", "told(0, 6) = 0");
        E.each("one of two that share none, DEPTH %", "0 3", EMPTY, "without(%, 0) = 0", "without(%, 1) = 0",
                "look(3) = 0", "miss(0, -1) = 12");
        E.edge("one of three that share none", EMPTY, Edges.text("word 2 is 2", 0), "letter(1, 2, 0, -1, 0)",
                "without(0, 0) = 12", "without(0, 2) = 12");
        E.edge("a change shows at once", EMPTY, "without(0, 0) = 0", Edges.text("word 2 is 2", 0),
                "letter(1, 2, 0, -1, 0)", "without(0, 0) = 12");
        String apart = Edges.join(lets("0"), "town(0)", Edges.text("word 1 is 2", 0), "letter(1, 101, 0, -1, 0)");
        E.edge("one of two TOWNS", apart, "without(0, 0) = 0", "without(0, 1) = 0");
        E.edge("one that is LOST already", apart, "letter(1, 101, 0, -1, 0)", "lose(2, true)", "without(0, 2) = 2",
                "told(2, 6) = 1");
        E.edge("one that isn't needed", apart, "letter(1, 101, 0, -1, 0)", "without(0, 1) = 2", "without(0, 2) = 2");
        E.edge("a TORN one", apart, "letter(5, 5, 0, -1, 0)", "without(0, 2) = 2");
        E.edge("one that isn't KNOWN yet", apart, "letter(1, 5, 0, -1, 10)", "without(0, 2) = 2");
        E.edge("a COPIED one COUNTS in its stead", EMPTY, "letter(3, 1, 0, 0, 0)", "without(0, 0) = 0");
        E.edge("no CELL behind the last, though it would miss less", OUTSIDE, "letter(5, 0, 0, -1, 0)",
                "without(0, 2) = 1", "without(0, 0) = 0");
        E.edge("a COPIED one in its stead makes it greater", lets("0-11"), Edges.text("word 1 is 9;word 2 is 0", 0),
                "letter(3, 1, 0, 0, 0)", "letter(1, 2, 0, -1, 0)", "without(0, 0) = 12", "without(0, 2) = 0",
                "miss(0, -1) = 0");
        E.edge("the last LETTER", "town(0)", Edges.text("word 0 is 0;word 1 is 1", 0),
                Edges.times(29, "letter(1, 0, 0, -1, 0)"), "letter(1, 1, 0, -1, 0)", "without(0, 29) = 0",
                "without(0, 28) = 12");
    }
}

/** The boundary cases of promises 1 to 7: a new object and the land. */
public final class EdgesLandTest {
    private static final Edges E = new Edges("EdgesLandTest");
    private static final String WORLD = Edges.WORLD;
    private static final String FULL_OF_TOWNS = Edges.times(16, "town(7)");

    public static void main(String[] args) {
        newObject();
        ground();
        town();
        houses();
        built();
        builtFindings();
        of();
        tick();
        E.end(1, 7);
    }

    private static void newObject() {
        E.promise(1, "A new object");
        E.edge("no TOWNS", "look(0) = 0", "silent() = 0", "of(0, 0) = BEYOND");
        E.edge("no LETTERS", "look(1) = 0", "look(2) = 0", "look(3) = 0", "counts(0) = BEYOND");
        E.edge("no TEXTS", "look(4) = 0", "why(0) = NONE", "why(23) = NONE");
        E.edge("what holds without a TEXT", "law(0) = 0", "law(1) = 0", "law(2) = 0", "law(3) = 0", "law(4) = 4",
                "law(5) = 0", "law(6) = 1", "law(7) = 2", "means(0) = 4095", "means(15) = 4095");
        E.edge("no NOTES", "look(5) = 0", "news() = 0", "noted(0, 0) = BEYOND");
        E.edge("DAY 0 is open", "look(6) = 0");
        E.edge("THE TAPE is empty", "look(7) = 0", "wipe() = 0", "text(0) = -1");
        E.edge("no image is kept", "undo() = NONE", "tear() = 0");
        for (int cell = 0; cell < 144; cell++) {
            E.edge("CELL " + cell + " is rock", "ground(" + cell + ", 2) = 0");
        }
        E.each("sheet % is MISSING", "0 1 2 3", "write(%, 0, 0) = MISSING");
        E.each("status(%) is 0", "-1 0 1 2 3 4 5 6", "status(%) = 0");
        ShakeLetters one = new ShakeLetters();
        one.town(5);
        one.ground(5, 2);
        one.feed(0, 4);
        one.sheet(0, 8, 4);
        one.image();
        one.town(-1);
        E.edge("another object's calls don't show", "look(0) = 0", "ground(5, 0) = 0", "look(7) = 0",
                "write(0, 0, 0) = MISSING", "undo() = NONE", "status(-1) = 2");
    }

    private static void ground() {
        E.promise(2, "ground");
        E.edge("the first CELL", "ground(0, 1) = 0", "ground(0, 0) = 1");
        E.edge("the last CELL", "ground(143, 1) = 0", "ground(143, 0) = 1");
        E.each("CELL % is none", "-1 144 MIN MAX", WORLD, "ground(%, 1) = BEYOND");
        E.edge("the least GROUND", "ground(66, 2) = 0", "ground(66, 0) = 2", "ground(66, 1) = 0");
        E.edge("the greatest GROUND", "ground(66, 2) = 0", "ground(66, 2) = 2");
        E.each("GROUND % is none", "-1 3 MIN MAX", WORLD, "ground(66, %) = BEYOND");
        E.edge("neither CELL nor GROUND", WORLD, "ground(144, 3) = BEYOND", "ground(-1, -1) = BEYOND");
        E.edge("it becomes what it was", "ground(9, 1) = 0", "ground(9, 1) = 1", "ground(9, 1) = 1");
        E.edge("the CELLS beside it stay", "ground(12, 2) = 0", "ground(11, 0) = 0", "ground(13, 0) = 0",
                "ground(0, 0) = 0", "ground(24, 0) = 0");
        E.edge("a CELL with a TOWN: its STEP follows", "town(143)", "step(143050, 0) = 5", "ground(143, 2) = 0",
                "step(143050, 0) = 7");
    }

    private static void town() {
        E.promise(3, "town");
        E.edge("the first CELL", "town(0) = 0", "of(0, 0) = 0");
        E.edge("the last CELL", "town(143) = 0", "of(0, 0) = 143");
        E.each("CELL % is none", "-1 144 MIN MAX", WORLD, "town(%) = BEYOND");
        E.edge("none there yet", "look(0) = 0", "town(5) = 0", "look(0) = 1");
        E.edge("one there", "town(5)", "town(6) = 1", "look(0) = 2");
        E.edge("fifteen there: the last that can be", Edges.times(15, "town(7)"), "town(8) = 15", "look(0) = 16",
                "of(15, 0) = 8");
        E.edge("full: one more", FULL_OF_TOWNS, "town(8) = FULL", "look(0) = 16");
        E.each("full: BEYOND is asked before FULL, CELL %", "-1 144", FULL_OF_TOWNS, "town(%) = BEYOND");
        E.edge("two in one CELL", "town(7) = 0", "town(7) = 1", "of(0, 0) = 7", "of(1, 0) = 7");
        E.edge("a refused one takes no number", "town(144) = BEYOND", "town(3) = 0");
        E.edge("it has no HOUSES at first", FULL_OF_TOWNS, "of(15, 3) = 0", "of(15, 4) = 0");
    }

    private static void houses() {
        E.promise(4, "houses");
        E.noTown("houses(%, 0, 1)");
        E.edge("the first TOWN", WORLD, "houses(0, 1, 5) = 0", "houses(0, 1, 6) = 5");
        E.edge("the last TOWN", FULL_OF_TOWNS, "houses(15, 5, 9999) = 0", "houses(15, 5, 0) = 9999",
                "houses(14, 5, 0) = 0");
        E.each("sort % of HOUSES", "0 1 2 3 4 5", "town(0)", "houses(0, %, 9) = 0", "houses(0, %, 8) = 9");
        E.each("sort % is none", "-1 6 MIN MAX", WORLD, "houses(0, %, 1) = BEYOND");
        E.edge("each sort for itself", "town(0)", "houses(0, 0, 10) = 0", "houses(0, 1, 11) = 0",
                "houses(0, 2, 12) = 0", "houses(0, 3, 13) = 0", "houses(0, 4, 14) = 0", "houses(0, 5, 15) = 0",
                "houses(0, 0, 0) = 10", "houses(0, 1, 0) = 11", "houses(0, 2, 0) = 12", "houses(0, 3, 0) = 13",
                "houses(0, 4, 0) = 14", "houses(0, 5, 0) = 15");
        E.edge("as they were: sorts 0 to 2", "town(0)", "houses(0, 0, 1)", "houses(0, 1, 20)", "houses(0, 2, 300)",
                "of(0, 3) = 321", "of(0, 4) = 0");
        E.edge("today: sorts 3 to 5", "town(0)", "houses(0, 3, 1)", "houses(0, 4, 20)", "houses(0, 5, 300)",
                "of(0, 3) = 0", "of(0, 4) = 321");
        E.edge("the fewest", "town(0)", "houses(0, 0, 5)", "houses(0, 0, 0) = 5", "houses(0, 0, 0) = 0");
        E.edge("the most", "town(0)", "houses(0, 0, 9999) = 0", "houses(0, 0, 9998) = 9999");
        E.each("% HOUSES are refused", "-1 10000 MIN MAX", WORLD, "houses(0, 0, %) = BEYOND",
                "houses(0, 5, %) = BEYOND");
    }

    private static String sheetOf(int bits, long stone, long clay, long wood) {
        return Edges.join("town(0)", "houses(0, 3, 5)", "houses(0, 4, 6)", "houses(0, 5, 7)",
                Edges.row(0, bits, stone, clay, wood));
    }

    private static void built() {
        E.promise(5, "built");
        E.edge("none became another", sheetOf(16, 5, 6, 7), "built(0, 0) = 0", "of(0, 4) = 18");
        E.edge("STONE alone became another", sheetOf(16, 4, 6, 7), "built(0, 0) = 1", "houses(0, 3, 0) = 4");
        E.edge("CLAY alone became another", sheetOf(16, 5, 4, 7), "built(0, 0) = 1", "houses(0, 4, 0) = 4");
        E.edge("WOOD alone became another", sheetOf(16, 5, 6, 4), "built(0, 0) = 1", "houses(0, 5, 0) = 4");
        E.edge("all three became others", sheetOf(16, 1, 2, 3), "built(0, 0) = 3", "built(0, 0) = 0",
                "houses(0, 3, 0) = 1", "houses(0, 4, 0) = 2", "houses(0, 5, 0) = 3");
        E.edge("as they were stays", sheetOf(16, 1, 2, 3), "houses(0, 0, 9)", "built(0, 0) = 3", "of(0, 3) = 9");
        E.edge("the least numbers", sheetOf(64, 0, 0, 0), "built(0, 0) = 3", "of(0, 4) = 0");
        E.edge("the greatest numbers", sheetOf(64, 9999, 9999, 9999), "built(0, 0) = 3", "of(0, 4) = 29997");
        E.edge("of 16 bits", sheetOf(16, 9999, 0, 9999), "built(0, 0) = 3", "of(0, 4) = 19998");
        E.edge("of 8 bits", sheetOf(8, 127, 0, 1), "built(0, 0) = 3", "of(0, 4) = 128");
        E.edge("the sheet stays", sheetOf(8, 1, 2, 3), "built(0, 0) = 3", "write(0, 0, 0) = 1", "write(0, 1, 0) = 2",
                "write(0, 2, 0) = 3");
        E.edge("the first TOWN and the last sheet", FULL_OF_TOWNS, Edges.row(3, 8, 1, 1, 1), "built(0, 3) = 3",
                "of(0, 4) = 3", "of(1, 4) = 0");
        E.edge("the last TOWN and the first sheet", FULL_OF_TOWNS, Edges.row(0, 8, 1, 1, 1), "built(15, 0) = 3",
                "of(15, 4) = 3", "of(14, 4) = 0");
    }

    private static void builtFindings() {
        E.noTown("built(%, 0)");
        E.noSheet("built(0, %)");
        E.each("sheet % is MISSING", "0 1 2 3", "town(0)", "built(0, %) = MISSING");
        E.edge("a sheet that is MISSING again", sheetOf(8, 1, 2, 3), "sheet(0, 0, 3)", "built(0, 0) = MISSING");
        E.each("SIZE: it has %", "0 1 2 4 5 40", WORLD, "sheet(0, 16, %)", "built(0, 0) = SIZE");
        for (int sort = 0; sort < 3; sort++) {
            String place = "write(0, " + sort + ", %)";
            E.each("BEYOND: number " + sort + " is %", "-1 10000 -9999 LMIN LMAX 4294967301 -4294967291", WORLD,
                    "sheet(0, 64, 3)", place, "built(0, 0) = BEYOND");
        }
        E.edge("BEYOND: of 16 bits, one above", sheetOf(16, 0, 0, 10000), "built(0, 0) = BEYOND");
        E.edge("BEYOND: of 16 bits, one below", sheetOf(16, 0, -1, 0), "built(0, 0) = BEYOND");
        E.edge("BEYOND: of 8 bits, 128 is -128", sheetOf(8, 128, 0, 0), "built(0, 0) = BEYOND");
        E.edge("BEYOND: of 16 bits, 40000 is below 0", sheetOf(16, 40000, 0, 0), "built(0, 0) = BEYOND");
        E.edge("no TOWN is asked before MISSING", WORLD, "built(4, 3) = BEYOND");
        E.edge("no TOWN is asked before SIZE", WORLD, "built(4, 1) = BEYOND");
        E.edge("neither TOWN nor sheet", WORLD, "built(4, 4) = BEYOND");
        E.edge("SIZE is asked before the numbers, too few", WORLD, Edges.row(0, 64, -1, 10000), "built(0, 0) = SIZE");
        E.edge("SIZE is asked before the numbers, too many", WORLD, Edges.row(0, 64, -1, 10000, 0, 0),
                "built(0, 0) = SIZE");
    }

    private static void of() {
        E.promise(6, "of");
        E.noTown("of(%, 0)");
        E.noTown("of(%, 4)");
        E.each("what % is none", "-1 5 MIN MAX", WORLD, "of(0, %) = BEYOND");
        E.edge("neither TOWN nor what", WORLD, "of(4, 5) = BEYOND");
        E.edge("the first TOWN", WORLD, "of(0, 0) = 5", "of(0, 1) = 3", "of(0, 2) = 1", "of(0, 3) = 77", "of(0, 4) = 0");
        E.edge("the last TOWN", FULL_OF_TOWNS, "letter(0, 1500, 0, -1, 0)", "houses(15, 0, 1)", "of(15, 0) = 7",
                "of(15, 1) = 1", "of(15, 2) = 1", "of(15, 3) = 1", "of(15, 4) = 0");
        E.edge("no LETTER tells of it", "town(0)", "town(1)", "letter(0, 0, 0, -1, 0)", "of(1, 1) = 0", "of(1, 2) = 0");
        E.edge("LETTERS that don't COUNT tell of it", "town(0)", "letter(5, 0, 0, -1, 0)", "letter(0, 0, 0, -1, 10)",
                "letter(0, 0, 0, -1, 0)", "lose(2, true)", "of(0, 1) = 3", "of(0, 2) = 0");
        E.edge("all LETTERS tell of it", "town(0)", Edges.times(30, "letter(0, 0, 0, -1, 0)"), "of(0, 1) = 30",
                "of(0, 2) = 30");
        E.edge("one that is KNOWN from the next DAY on", "town(0)", "letter(0, 0, 0, -1, 10)", "of(0, 2) = 0", "tick(1)",
                "of(0, 2) = 1");
        E.edge("the fewest HOUSES", "town(0)", "of(0, 3) = 0", "of(0, 4) = 0");
        E.edge("the most HOUSES as they were", "town(0)", "houses(0, 0, 9999)", "houses(0, 1, 9999)",
                "houses(0, 2, 9999)", "of(0, 3) = 29997", "of(0, 4) = 0");
        E.edge("the most HOUSES today", "town(0)", "houses(0, 3, 9999)", "houses(0, 4, 9999)", "houses(0, 5, 9999)",
                "of(0, 3) = 0", "of(0, 4) = 29997");
    }

    private static String untilDay(int day) {
        String run = Edges.times(day / 400, "tick(400)");
        return day % 400 == 0 ? run : Edges.join(run, "tick(" + day % 400 + ")");
    }

    private static void tick() {
        E.promise(7, "tick");
        E.edge("the fewest DAYS", "tick(1) = 1", "look(6) = 1");
        E.edge("the most DAYS", "tick(400) = 400", "tick(400) = 800");
        E.each("% DAYS are refused", "0 -1 401 MIN MAX", WORLD, "tick(%) = BEYOND", "look(6) = 5");
        E.edge("to 9999 by the most", untilDay(9599), "tick(400) = 9999", "look(6) = 9999");
        E.edge("to 9999 by one", untilDay(9998), "tick(1) = 9999");
        E.edge("to 10000 by the most", untilDay(9600), "tick(400) = FULL", "tick(399) = 9999");
        E.edge("to 10000 by one", untilDay(9999), "tick(1) = FULL", "look(6) = 9999");
        E.edge("to 10399, as far as can be", untilDay(9999), "tick(400) = FULL");
        E.each("BEYOND is asked before FULL: % on DAY 9999", "0 -1 401 MIN MAX", untilDay(9999), "tick(%) = BEYOND");
    }
}

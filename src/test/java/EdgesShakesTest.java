/** The boundary cases of promises 26 to 36: towns and shakes. */
public final class EdgesShakesTest {
    private static final Edges E = new Edges("EdgesShakesTest");
    private static final String WORLD = Edges.WORLD;
    /** TOWNS 0 and 1 in the corners, of which EYES tell with a WORD that means 8: 80 hits the one, 143080 the other. */
    private static final String CORNERS = Edges.join("town(0)", "town(143)", Edges.text("word 0 is 8", 0),
            "letter(1, 0, 0, -1, 0)", "letter(1, 100, 0, -1, 0)");

    public static void main(String[] args) {
        span();
        beside();
        silent();
        step();
        stepCut();
        miss();
        two();
        split();
        pair();
        night();
        shakesOfSheets("pair", 33);
        shakesOfSheets("night", 34);
        fits();
        falls();
        E.end(26, 36);
    }

    /** TOWN 0, of which one EYE tells for each of these meanings. */
    private static String told(String... meanings) {
        StringBuilder rules = new StringBuilder();
        StringBuilder letters = new StringBuilder("town(0)");
        for (int i = 0; i < meanings.length; i++) {
            rules.append(i == 0 ? "" : ";").append("word ").append(i).append(" is ").append(meanings[i]);
            letters.append("; letter(1, ").append(i).append(", 0, -1, 0)");
        }
        return Edges.join(Edges.text(rules.toString(), 0), letters.toString());
    }

    private static void span() {
        E.promise(26, "span");
        E.noTown("span(%)");
        E.edge("no LETTER tells of it", "town(0)", "span(0) = 4095");
        E.edge("one tells of it", told("4-6"), "span(0) = 112");
        E.edge("two that share one STEP", told("0-5", "5-11"), "span(0) = 32");
        E.edge("two that share the first STEP", told("0-5", "0"), "span(0) = 1");
        E.edge("two that share the last STEP", told("11", "5-11"), "span(0) = 2048");
        E.edge("two that share none: empty", told("0-5", "6-11"), "span(0) = 0");
        E.edge("two that are a STEP apart", told("0-4", "6-11"), "span(0) = 0");
        E.edge("two that share all", told("0-11", "0-11"), "span(0) = 4095");
        E.edge("three, any two of which share", told("0-5", "5-11", "4-6"), "span(0) = 32");
        E.edge("one of another TOWN", told("4-6"), "town(0)", "span(1) = 4095", "span(0) = 112");
        E.edge("a TORN one", told("4-6"), "letter(5, 0, 0, -1, 0)", "lose(0, true)", "span(0) = 4095");
        E.edge("a LOST one", told("4-6"), "lose(0, true)", "span(0) = 4095", "lose(0, false)", "span(0) = 112");
        E.edge("one that is KNOWN from the next DAY on", Edges.text("word 0 is 4-6", 0), "town(0)",
                "letter(1, 0, 0, -1, 10)", "span(0) = 4095", "tick(1)", "span(0) = 112");
        E.edge("a COPIED one that doesn't COUNT", told("4-6", "9"), "letter(3, 1, 0, 0, 0)", "lose(1, true)",
                "span(0) = 112", "lose(0, true)", "span(0) = 1792");
        E.edge("a change shows at once", told("4-6"), "span(0) = 112", "reread(0, 9)", "span(0) = 4095");
        E.edge("all LETTERS tell of the last TOWN", Edges.times(16, "town(0)"), Edges.text("word 0 is 4-6", 0),
                Edges.times(29, "letter(1, 1501, 0, -1, 0)"), "letter(1, 1500, 0, -1, 0)", "span(15) = 112",
                "span(14) = 4095");
    }

    private static void beside() {
        E.promise(27, "beside");
        E.noLetter("beside(%)");
        E.edge("the only one", told("4-6"), "beside(0) = 4095", "span(0) = 112", "told(0, 6) = 0");
        E.edge("one of two", told("4-6", "6-9"), "beside(0) = 960", "beside(1) = 112", "span(0) = 64");
        E.edge("one of two that share none", told("4", "6"), "span(0) = 0", "beside(0) = 64", "beside(1) = 16");
        E.edge("one that is LOST already", told("4-6", "6-9"), "lose(1, true)", "beside(1) = 112", "told(1, 6) = 1");
        E.edge("one of three that share none without it", told("4", "6", "8"), "beside(0) = 0");
        E.edge("a TORN one", told("4-6"), "letter(5, 0, 0, -1, 0)", "beside(1) = 112");
        E.edge("one that isn't KNOWN yet", told("4-6"), "letter(1, 0, 0, -1, 10)", "beside(1) = 112");
        E.edge("a COPIED one COUNTS in its stead", told("4-6"), "letter(3, 0, 0, 0, 0)", "beside(0) = 248",
                "counts(1) = 0");
        E.edge("the first of two COPIED ones COUNTS in its stead", told("4-6", "1"), "lose(1, true)",
                "letter(3, 0, 0, 0, 0)", "letter(3, 1, 0, 0, 0)", "beside(0) = 248");
        E.edge("beside a COPIED one the next COUNTS", told("4-6", "1"), "lose(1, true)", "letter(3, 0, 0, 0, 0)",
                "letter(3, 1, 0, 0, 0)", "lose(0, true)", "span(0) = 248", "beside(2) = 7");
        E.edge("a COPIED one from it that COUNTS then hides another", told("4-6"), "letter(3, 1, 0, 0, 0)",
                "letter(3, 0, 0, 1, 0)", "span(0) = 112", "beside(0) = 4095");
        E.edge("SPAN of its TOWN, not of another", told("4-6"), "town(9)", "letter(1, 100, 0, -1, 0)",
                "beside(0) = 4095", "beside(1) = 4095", "span(1) = 112");
        E.edge("a change shows at once", told("4-6", "6-9"), "beside(0) = 960", "reread(1, 9)", "beside(0) = 4095");
        E.edge("the last LETTER", Edges.text("word 0 is 4-6", 0), "town(0)", Edges.times(29, "letter(1, 1, 0, -1, 0)"),
                "letter(1, 0, 0, -1, 0)", "beside(29) = 4095", "beside(28) = 112");
    }

    private static void silent() {
        E.promise(28, "silent");
        E.edge("no TOWNS", "silent() = 0");
        E.edge("one, silent", "town(0)", "silent() = 1");
        E.edge("one, not silent", "town(0)", "letter(0, 0, 0, -1, 0)", "silent() = 0");
        E.edge("all sixteen", Edges.times(16, "town(0)"), "silent() = 65535");
        E.edge("all but the first", Edges.times(16, "town(0)"), "letter(0, 0, 0, -1, 0)", "silent() = 65534");
        E.edge("all but the last", Edges.times(16, "town(0)"), "letter(0, 1500, 0, -1, 0)", "silent() = 32767");
        String[] letters = new String[16];
        for (int town = 0; town < 16; town++) {
            letters[town] = "letter(0, " + 100 * town + ", 0, -1, 0)";
        }
        E.edge("none of sixteen", Edges.times(16, "town(0)"), Edges.join(letters), "silent() = 0");
        E.edge("a TORN one tells", "town(0)", "letter(5, 0, 0, -1, 0)", "silent() = 1");
        E.edge("a LOST one tells", "town(0)", "letter(0, 0, 0, -1, 0)", "lose(0, true)", "silent() = 1");
        E.edge("one that is KNOWN from the next DAY on tells", "town(0)", "letter(0, 0, 0, -1, 10)", "silent() = 1",
                "tick(1)", "silent() = 0");
        E.edge("a COPIED one tells that doesn't COUNT", "town(0)", "town(1)", "letter(0, 0, 0, -1, 0)",
                "letter(3, 100, 0, 0, 0)", "silent() = 0b10", "lose(0, true)", "silent() = 0b1");
    }

    private static void step() {
        E.promise(29, "step");
        E.noShake("step(%, 0)");
        E.noTown("step(0, %)");
        E.edge("neither SHAKE nor TOWN", WORLD, "step(4, 4) = BEYOND");
        E.edge("the first SHAKE", "town(0)", "step(0, 0) = 0");
        E.edge("the last SHAKE", "town(143)", "step(143393, 0) = 11");
        E.edge("the last DEPTH", "town(0)", "step(73, 0) = 1");
        E.edge("the last STRENGTH", "town(0)", "step(390, 0) = 11");
        E.edge("the last CELL", "town(143)", "step(143050, 0) = 5");
        E.edge("the last CELL, where none beside it is as near", "town(143)", Edges.text("falls 1", 0),
                "step(143050, 0) = 5", "step(142050, 0) = 4", "step(131050, 0) = 4");
        E.edge("the last TOWN", Edges.times(15, "town(143)"), "town(0)", "step(50, 15) = 5", "step(50, 14) = 0");
        E.edge("0 at least: 0 itself, one above, one below", "town(0)", "step(28050, 0) = 0", "step(28060, 0) = 1",
                "step(28040, 0) = 0");
        E.edge("0 at least: as far below as can be", "town(143)", Edges.text("falls 1", 0), "step(3, 0) = 0",
                "step(393, 0) = 0");
        E.edge("11 at most: 10, 11, 12", "town(0)", "step(100, 0) = 10", "step(110, 0) = 11", "step(120, 0) = 11");
        E.edge("11 at most: as far above as can be", "town(0)", Edges.text("ground 0 more 9", 0), "step(390, 0) = 11");
        E.edge("MORE of rock, sand, lake", "town(0)", "town(1)", "town(2)", "ground(1, 1)", "ground(2, 2)",
                "step(50, 0) = 5", "step(1050, 1) = 6", "step(2050, 2) = 7");
        E.edge("MORE of the TOWN's CELL, not the SHAKE's", "town(0)", "ground(1, 2)", "step(1050, 0) = 5",
                "ground(0, 2)", "ground(1, 0)", "step(1050, 0) = 7");
        E.edge("the least MORE and the greatest", "town(0)", "ground(0, 2)", Edges.text("ground 2 more 0", 0),
                "step(0, 0) = 0", Edges.text("ground 2 more 9", 0), "step(0, 0) = 9");
        E.edge("MORE comes before it is 0 at least", "town(0)", "ground(0, 2)", "step(5050, 0) = 1");
        E.edge("a change shows at once", "town(66)", "step(66050, 0) = 5", "ground(66, 2)", "step(66050, 0) = 7",
                Edges.text("ground 2 more 4", 1), "step(66050, 0) = 7", "tick(1)", "step(66050, 0) = 9");
        E.edge("a TOWN that is new shows at once", "town(66)", "step(66050, 0) = 5", "town(68)", "step(66050, 1) = 4");
        E.edge("less comes before it is 11 at most", "town(0)", "step(27120, 0) = 9");
    }

    private static void stepCut() {
        E.edge("cut: 0, 1, 2, 4, 5 by 4", "town(0)", "step(50, 0) = 5", "step(1050, 0) = 5", "step(13050, 0) = 5",
                "step(2050, 0) = 4", "step(14050, 0) = 4");
        E.edge("cut: dy as dx", "town(0)", "step(12050, 0) = 5", "step(24050, 0) = 4", "step(25050, 0) = 4");
        E.edge("from the other side as from the one", "town(13)", "step(14050, 0) = 5", "step(12050, 0) = 5",
                "step(15050, 0) = 4", "step(37050, 0) = 4", "step(50, 0) = 5");
        E.edge("DEPTH: 9, 18, 27 by 4", "town(0)", "step(91, 0) = 7", "step(92, 0) = 5", "step(93, 0) = 3");
        E.edge("together, not each by itself: 2 and 18 by 4", "town(0)", "step(13092, 0) = 4");
        E.edge("together, not each by itself: 1 and 27 by 4", "town(0)", "step(1093, 0) = 2");
        E.edge("as far as can be: 242 by 20", "town(143)", Edges.text("falls 20", 0), "step(150, 0) = 3",
                "step(120, 0) = 0", "step(130, 0) = 1");
        E.edge("as far and deep as can be: 269 by 20", "town(143)", Edges.text("falls 20", 0), "step(153, 0) = 2");
        E.edge("as far as can be, across: 242 by 20", "town(11)", Edges.text("falls 20", 0), "step(132150, 0) = 3");
        E.edge("the least FALLS", "town(0)", Edges.text("falls 1", 0), "step(1050, 0) = 4", "step(13050, 0) = 3",
                "step(3050, 0) = 0", "step(2050, 0) = 1");
        E.edge("the greatest FALLS: 19 no, 20 yes", "town(0)", Edges.text("falls 20", 0), "step(28050, 0) = 4",
                "step(27050, 0) = 5", "step(15091, 0) = 9", "step(14062, 0) = 5");
    }

    private static void miss() {
        E.promise(30, "miss");
        E.noShake("miss(%, 0)");
        E.noShake("miss(%, -1)");
        E.each("TOWN % (0 to 3 are there)", "-2 4 16 MIN MAX", WORLD, "miss(0, %) = BEYOND");
        E.edge("TOWN 0 where none is yet", "miss(0, 0) = BEYOND");
        E.edge("TOWN 16 where all are there", Edges.times(16, "town(0)"), "miss(0, 16) = BEYOND", "miss(0, 15) = 0");
        E.edge("neither SHAKE nor TOWN", WORLD, "miss(4, 4) = BEYOND");
        E.edge("all TOWNS: none is yet", "miss(0, -1) = 0", "miss(143393, -1) = 0");
        E.edge("all TOWNS: one", told("0"), "miss(70, -1) = 7", "miss(70, 0) = 7");
        E.edge("all TOWNS together", told("4-6"), "town(0)", "letter(1, 100, 0, -1, 0)", "town(0)", "miss(80, 0) = 2",
                "miss(80, 1) = 2", "miss(80, 2) = 0", "miss(80, -1) = 4");
        E.edge("a change shows at once", told("4-6"), "miss(80, 0) = 2", "reread(0, 9)", "miss(80, 0) = 0",
                "reread(0, 0)", "miss(80, -1) = 2", "lose(0, true)", "miss(80, -1) = 0");
        E.edge("the STEP is one of the SPAN", told("4-6"), "miss(40, 0) = 0", "miss(50, 0) = 0", "miss(60, 0) = 0");
        E.edge("one below, one above", told("4-6"), "miss(30, 0) = 1", "miss(70, 0) = 1");
        E.edge("as far below as can be", told("4-6"), "miss(0, 0) = 4");
        E.edge("as far above as can be", told("4-6"), "miss(110, 0) = 5", "miss(390, 0) = 5");
        E.edge("the whole way up", told("0"), "miss(110, 0) = 11", "miss(0, 0) = 0");
        E.edge("the whole way down", told("11"), "miss(0, 0) = 11", "miss(110, 0) = 0");
        E.edge("all STEPS", told("0-11"), "miss(0, 0) = 0", "miss(390, 0) = 0");
        E.edge("an empty SPAN", told("0", "1"), "miss(0, 0) = 12", "miss(110, 0) = 12", "miss(0, -1) = 12");
        String empty = "";
        for (int town = 0; town < 15; town++) {
            empty = Edges.join(empty, "letter(1, " + 100 * town + ", 0, -1, 0)", "letter(1, " + (100 * town + 1)
                    + ", 0, -1, 0)");
        }
        E.edge("as many empty SPANS as LETTERS let", Edges.times(16, "town(0)"),
                Edges.text("word 0 is 0;word 1 is 1", 0), empty, "miss(0, -1) = 180", "miss(0, 15) = 0");
        String eyes = "";
        for (int town = 0; town < 16; town++) {
            eyes = Edges.join(eyes, "letter(1, " + 100 * town + ", 0, -1, 0)");
        }
        E.edge("all sixteen the whole way", Edges.times(16, "town(0)"), Edges.text("word 0 is 0", 0), eyes,
                "miss(110, -1) = 176", "miss(110, 15) = 11", "miss(0, -1) = 0");
    }

    private static void two() {
        E.promise(31, "two");
        E.noShake("two(%, 0)");
        E.noShake("two(0, %)");
        E.edge("neither is a SHAKE", WORLD, "two(4, -1) = BEYOND");
        E.edge("no TOWNS", "two(0, 143393) = 0");
        E.edge("the first SHAKE and the last", CORNERS, "two(0, 143393) = 11", "miss(0, -1) = 16",
                "miss(143393, -1) = 11");
        E.edge("one twice", CORNERS, "two(80, 80) = 8", "miss(80, -1) = 8");
        E.edge("each is the lesser one of one TOWN", CORNERS, "two(80, 143080) = 0", "two(143080, 80) = 0");
        E.edge("one is the lesser one of both", CORNERS, "two(80, 0) = 8", "two(0, 80) = 8");
        E.edge("like in one TOWN, lesser in another", CORNERS, "two(70, 143070) = 2", "two(90, 143070) = 2");
        E.edge("a change shows at once", CORNERS, "two(80, 80) = 8", "lose(1, true)", "two(80, 80) = 0");
        E.edge("an empty SPAN counts once", told("0", "1"), "two(0, 110) = 12");
        E.edge("a TOWN that is gone counts no more", Edges.text("word 0 is 8", 0), "town(0)", "letter(1, 0, 0, -1, 0)",
                "image()", "town(143)", "letter(1, 100, 0, -1, 0)", "two(80, 80) = 8", "undo()", "two(80, 80) = 0",
                "two(80, 0) = 0");
        E.edge("the last TOWN counts", Edges.times(15, "town(0)"), "town(143)", Edges.text("word 0 is 8", 0),
                "letter(1, 1500, 0, -1, 0)", "two(80, 0) = 8", "two(80, 143070) = 1");
    }

    private static void split() {
        E.promise(32, "split");
        E.noShake("split(%, 0)");
        E.noShake("split(0, %)");
        E.edge("neither is a SHAKE", WORLD, "split(4, -1) = BEYOND");
        E.edge("no TOWNS", "split(0, 143393) = 0");
        E.edge("one twice", CORNERS, "split(80, 80) = 0");
        E.edge("a like MISS isn't less", CORNERS, "split(70, 90) = 0", "split(90, 70) = 0");
        E.edge("less by one", CORNERS, "split(70, 80) = 0b1", "split(80, 70) = 0");
        E.edge("one TOWN each", CORNERS, "split(80, 143080) = 0b10", "split(143080, 80) = 0b1");
        E.edge("a change shows at once", CORNERS, "split(80, 143080) = 0b10", "lose(1, true)", "split(80, 143080) = 0");
        E.edge("an empty SPAN is alike", told("0", "1"), "split(0, 110) = 0");
        String eyes = "";
        for (int town = 0; town < 16; town++) {
            eyes = Edges.join(eyes, "letter(1, " + 100 * town + ", 0, -1, 0)");
        }
        E.edge("all sixteen", Edges.times(16, "town(0)"), Edges.text("word 0 is 8", 0), eyes, "split(0, 80) = 65535",
                "split(80, 0) = 0");
        E.edge("the last alone", Edges.times(15, "town(0)"), "town(143)", Edges.text("word 0 is 8", 0),
                "letter(1, 1500, 0, -1, 0)", "split(80, 143080) = 32768");
    }

    private static void pair() {
        E.promise(33, "pair");
        E.edge("the fewest: two", CORNERS, Edges.row(0, 64, 80, 143080), "pair(0) = 1");
        E.edge("the fewest: one SHAKE twice", CORNERS, Edges.row(0, 64, 80, 80), "pair(0) = 1");
        E.edge("the most: twelve, the first two", CORNERS,
                Edges.row(0, 64, 80, 143080, 80, 143080, 80, 143080, 80, 143080, 80, 143080, 80, 143080), "pair(0) = 1");
        E.edge("the most: twelve, the last two", CORNERS,
                Edges.row(0, 64, 0, 0, 0, 0, 0, 0, 0, 0, 0, 0, 80, 143080), "pair(0) = 1011");
        E.edge("the most: twelve, and sixteen TOWNS", Edges.times(15, "town(0)"), "town(143)",
                Edges.text("word 0 is 8", 0), "letter(1, 0, 0, -1, 0)", "letter(1, 1500, 0, -1, 0)",
                Edges.row(0, 64, 0, 0, 0, 0, 0, 0, 0, 0, 0, 0, 80, 143080), "pair(0) = 1011", "night(0) = 8");
        E.edge("the most: the first and the last", CORNERS,
                Edges.row(0, 64, 80, 0, 0, 0, 0, 0, 0, 0, 0, 0, 0, 143080), "pair(0) = 11");
        E.edge("of like ones the least such number: all alike", CORNERS, Edges.row(0, 64, 80, 80, 80), "pair(0) = 1");
        E.edge("of like ones the least such number: 2, not 102", CORNERS, Edges.row(0, 64, 80, 80, 143080),
                "pair(0) = 2");
        E.edge("of like ones the least such number: 1, not 2", CORNERS, Edges.row(0, 64, 80, 143080, 143080),
                "pair(0) = 1");
        E.edge("of like ones the least such number: 103, not 203", CORNERS, Edges.row(0, 64, 0, 80, 80, 143080),
                "pair(0) = 103");
        E.edge("less by one is less", CORNERS, Edges.row(0, 64, 80, 143070, 143080), "pair(0) = 2");
        E.edge("no TOWNS", Edges.row(0, 64, 0, 0, 0), "pair(0) = 1");
        E.edge("a change shows at once", CORNERS, Edges.row(0, 64, 0, 80, 143080), "pair(0) = 102", "lose(1, true)",
                "pair(0) = 1");
        E.edge("of 16 bits", CORNERS, Edges.row(1, 16, 32000, 70, 80), "pair(1) = 2");
        E.edge("of 8 bits", CORNERS, Edges.row(2, 8, 0, 70, 80), "pair(2) = 2");
        E.edge("the first sheet and the last", CORNERS, Edges.row(0, 64, 80, 143080), Edges.row(3, 64, 0, 80, 143080),
                "pair(0) = 1", "pair(3) = 102");
    }

    private static void night() {
        E.promise(34, "night");
        E.edge("one SHAKE twice: nothing less", CORNERS, Edges.row(0, 64, 80, 80), "night(0) = 0");
        E.edge("a second one that doesn't help", CORNERS, Edges.row(0, 64, 80, 0), "night(0) = 0");
        E.edge("a second one that helps by one", CORNERS, Edges.row(0, 64, 80, 143010), "night(0) = 1");
        E.edge("a second one that helps all the way", CORNERS, Edges.row(0, 64, 80, 143080), "night(0) = 8");
        E.edge("a change shows at once", CORNERS, Edges.row(0, 64, 80, 143080), "night(0) = 8", "lose(1, true)",
                "night(0) = 0");
        E.edge("the least alone is the second", CORNERS, Edges.row(0, 64, 70, 143080), "night(0) = 7");
        E.edge("the least alone is none of the pair", CORNERS, Edges.text("falls 10", 0),
                Edges.row(0, 64, 65140, 80, 143080), "pair(0) = 102", "miss(65140, -1) = 2", "miss(80, -1) = 8",
                "night(0) = 2");
        E.edge("the most: twelve", CORNERS, Edges.row(0, 64, 0, 0, 0, 0, 0, 0, 0, 0, 0, 0, 80, 143080),
                "night(0) = 8");
        E.edge("no TOWNS", Edges.row(0, 64, 0, 0, 0), "night(0) = 0");
        E.edge("an empty SPAN is the same for both", told("0", "1"), Edges.row(0, 64, 0, 110), "night(0) = 0");
    }

    /** pair() and night() refuse the same sheets. */
    private static void shakesOfSheets(String act, int promise) {
        E.promise(promise, act);
        E.noSheet(act + "(%)");
        E.each("sheet % is MISSING", "0 1 2 3", act + "(%) = MISSING");
        E.edge("a sheet that is MISSING again", Edges.row(0, 64, 0, 0), "sheet(0, 0, 2)", act + "(0) = MISSING");
        E.each("SIZE: it has %", "0 1 13 40", WORLD, "sheet(0, 64, %)", act + "(0) = SIZE");
        E.each("it has %", "2 12", "sheet(0, 64, %)", act + "(0) = " + (act.equals("pair") ? 1 : 0));
        for (int place : new int[] {0, 2, 11}) {
            E.each("BEYOND: number " + place + " of twelve is %",
                    "-1 4 400 144000 -143393 LMIN LMAX 2147483648 4294967296 4294967376 -4294967216", WORLD,
                    "sheet(0, 64, 12)", "write(0, " + place + ", %)", act + "(0) = BEYOND");
            E.each("number " + place + " of twelve is a SHAKE: %", "0 3 390 143000 143393", "sheet(0, 64, 12)",
                    "write(0, " + place + ", %)", act + "(0) = " + (act.equals("pair") ? 1 : 0));
        }
        E.edge("BEYOND: of 8 bits, 130 is below 0", WORLD, Edges.row(2, 8, 130, 0), act + "(2) = BEYOND");
        E.edge("BEYOND: of 16 bits, 33000 is below 0", WORLD, Edges.row(1, 16, 33000, 0), act + "(1) = BEYOND");
        E.edge("SIZE is asked before the numbers, too few", WORLD, Edges.row(0, 64, -1), act + "(0) = SIZE");
        E.edge("SIZE is asked before the numbers, too many", WORLD,
                Edges.row(0, 64, -1, -1, -1, -1, -1, -1, -1, -1, -1, -1, -1, -1, -1), act + "(0) = SIZE");
    }

    private static void fits() {
        E.promise(35, "fits");
        E.noShake("fits(%)");
        E.edge("no LETTERS", "fits(0) = 0", "town(0)", "fits(0) = 0");
        E.edge("one STEP alone, that one", told("6"), "fits(60) = 0b1");
        E.edge("one STEP alone, one above and one below", told("6"), "fits(50) = 0", "fits(70) = 0");
        E.edge("one STEP alone, told as two", told("6-6"), "fits(60) = 0b1");
        E.edge("two STEPS", told("6-7"), "fits(60) = 0", "fits(70) = 0");
        E.edge("all STEPS, without a RULE", "town(0)", "letter(1, 0, 0, -1, 0)", "fits(60) = 0");
        E.edge("the first STEP", told("0"), "fits(0) = 0b1", "fits(10) = 0");
        E.edge("the last STEP", told("11"), "fits(110) = 0b1", "fits(390) = 0b1", "fits(100) = 0");
        E.edge("HEARD and BENT: by what the WORD MEANS, not what it LETS", told("6"), "letter(2, 0, 0, -1, 0)",
                "letter(4, 0, 0, -1, 5)", "fits(60) = 0b111", "fits(50) = 0");
        E.edge("TORN, LOST, not KNOWN yet", told("6"), "letter(5, 0, 0, -1, 0)", "letter(1, 0, 0, -1, 0)",
                "lose(2, true)", "letter(1, 0, 0, -1, 10)", "fits(60) = 0b1", "tick(1)", "fits(60) = 0b1001");
        E.edge("COPIED, in its stead", told("6"), "letter(3, 0, 0, 0, 0)", "fits(60) = 0b1", "lose(0, true)",
                "fits(60) = 0b10");
        E.edge("STEP in the TOWN of which it tells", CORNERS, "fits(80) = 0b1", "fits(143080) = 0b10", "fits(8080) = 0");
        E.edge("a change shows at once", "town(66)", Edges.text("word 0 is 6", 0), "letter(1, 0, 0, -1, 0)",
                "fits(66060) = 0b1", "ground(66, 1)", "fits(66060) = 0", "fits(66050) = 0b1", "reread(0, 9)",
                "fits(66050) = 0");
        E.edge("LETTERS that share no STEP fit all the same", told("6", "7"), "span(0) = 0", "fits(60) = 0b1",
                "fits(70) = 0b10");
        E.edge("all of them", Edges.text("word 0 is 6", 0), "town(0)", Edges.times(30, "letter(1, 0, 0, -1, 0)"),
                "fits(60) = 1073741823");
        E.edge("the last alone", Edges.text("word 9 is 6", 0), "town(0)", Edges.times(29, "letter(1, 0, 0, -1, 0)"),
                "letter(1, 9, 0, -1, 0)", "fits(60) = 536870912");
    }

    private static String built(int stone, int clay, int wood) {
        return Edges.join("town(0)", "houses(0, 3, " + stone + ")", "houses(0, 4, " + clay + ")",
                "houses(0, 5, " + wood + ")");
    }

    private static void falls() {
        E.promise(36, "falls");
        E.noShake("falls(%, 0, 0)");
        E.noTown("falls(0, %, 0)");
        E.each("sort % is none", "-1 4 MIN MAX", WORLD, "falls(0, 0, %) = BEYOND");
        E.edge("none of the three", WORLD, "falls(4, 4, 4) = BEYOND");
        E.edge("STONE: STEP 5 and 6", built(100, 0, 0), "falls(50, 0, 0) = 0", "falls(60, 0, 0) = 10");
        E.edge("CLAY: STEP 3 and 4", built(0, 100, 0), "falls(30, 0, 1) = 0", "falls(40, 0, 1) = 11");
        E.edge("WOOD: STEP 7 and 8", built(0, 0, 100), "falls(70, 0, 2) = 0", "falls(80, 0, 2) = 5");
        E.edge("the first STEP", built(9999, 9999, 9999), "falls(0, 0, 0) = 0", "falls(0, 0, 1) = 0",
                "falls(0, 0, 2) = 0", "falls(0, 0, 3) = 0");
        E.edge("the last STEP", built(100, 100, 100), "falls(110, 0, 0) = 60", "falls(110, 0, 1) = 88",
                "falls(110, 0, 2) = 20", "falls(110, 0, 3) = 168");
        E.edge("cut: STONE", built(9, 0, 0), "falls(60, 0, 0) = 0", "houses(0, 3, 10)", "falls(60, 0, 0) = 1",
                "houses(0, 3, 19)", "falls(60, 0, 0) = 1", "houses(0, 3, 20)", "falls(60, 0, 0) = 2");
        E.edge("cut: CLAY", built(0, 9, 0), "falls(40, 0, 1) = 0", "houses(0, 4, 10)", "falls(40, 0, 1) = 1",
                "houses(0, 4, 18)", "falls(40, 0, 1) = 1", "houses(0, 4, 19)", "falls(40, 0, 1) = 2");
        E.edge("cut: WOOD", built(0, 0, 19), "falls(80, 0, 2) = 0", "houses(0, 5, 20)", "falls(80, 0, 2) = 1",
                "houses(0, 5, 39)", "falls(80, 0, 2) = 1", "houses(0, 5, 40)", "falls(80, 0, 2) = 2");
        E.edge("all three: each is cut", built(9, 9, 19), "falls(110, 0, 0) = 5", "falls(110, 0, 1) = 7",
                "falls(110, 0, 2) = 3", "falls(110, 0, 3) = 15");
        E.edge("a change shows at once", "town(66)", "houses(0, 3, 100)", "falls(66060, 0, 0) = 10", "ground(66, 2)",
                "falls(66060, 0, 0) = 30", "houses(0, 3, 200)", "falls(66060, 0, 0) = 60", "falls(66060, 0, 3) = 60");
        E.edge("HOUSES of the TOWN beside it don't count", built(10, 10, 10), "town(0)", "houses(1, 0, 9999)",
                "houses(1, 3, 9999)", "falls(110, 0, 3) = 16");
        E.edge("all three of the last TOWN", Edges.times(16, "town(0)"), "houses(15, 3, 100)", "houses(15, 4, 100)",
                "houses(15, 5, 100)", "falls(110, 15, 3) = 168", "falls(110, 15, 2) = 20", "falls(110, 14, 3) = 0");
        E.edge("no HOUSES", "town(0)", "falls(110, 0, 0) = 0", "falls(110, 0, 1) = 0", "falls(110, 0, 2) = 0",
                "falls(110, 0, 3) = 0");
        E.edge("the most HOUSES", built(9999, 9999, 9999), "falls(110, 0, 0) = 5999", "falls(110, 0, 1) = 8799",
                "falls(110, 0, 2) = 1999", "falls(110, 0, 3) = 16797");
        E.edge("of what there is today, not as they were", "town(0)", "houses(0, 0, 100)", "houses(0, 1, 100)",
                "houses(0, 2, 100)", "falls(110, 0, 3) = 0");
        E.edge("the last TOWN", Edges.times(16, "town(0)"), "houses(15, 3, 100)", "falls(110, 15, 0) = 60",
                "falls(110, 14, 0) = 0");
        E.edge("what falls stays counted", built(100, 100, 100), "falls(110, 0, 3) = 168", "falls(110, 0, 3) = 168",
                "of(0, 4) = 300");
    }
}

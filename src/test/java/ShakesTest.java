/** Promises 26 to 36: towns and shakes. */
public final class ShakesTest {
    private static final Due DUE = new Due("ShakesTest");

    public static void main(String[] args) {
        span();
        beside();
        silent();
        step();
        miss();
        twoAndSplit();
        pairAndNight();
        fits();
        falls();
        DUE.end();
    }

    private static void span() {
        ShakeLetters x = new ShakeLetters();
        x.town(0);
        x.town(1);
        Due.read(x, "word 0 is 3-8; word 1 is 6 - 11; word 2 is 0", 0);
        DUE.is("span without letters", x.span(0), 4095);
        x.letter(1, 0, 0, -1, 0);
        x.letter(1, 1, 0, -1, 0);
        DUE.is("span of two", x.span(0), 0x1C0);
        DUE.is("span of the other town", x.span(1), 4095);
        x.letter(1, 2, 0, -1, 10);
        x.letter(5, 2, 0, -1, 0);
        DUE.is("span without those that don't count", x.span(0), 0x1C0);
        x.tick(1);
        DUE.is("an empty span", x.span(0), 0);
        x.lose(2, true);
        DUE.is("span without the LOST one", x.span(0), 0x1C0);
    }

    private static void beside() {
        ShakeLetters x = new ShakeLetters();
        x.town(0);
        x.town(1);
        Due.read(x, "word 0 is 3-8; word 1 is 6 - 11; word 2 is 1", 0);
        x.letter(1, 0, 0, -1, 0);
        x.letter(1, 1, 0, -1, 0);
        x.letter(3, 2, 0, 0, 0);
        x.letter(1, 102, 0, -1, 0);
        DUE.is("beside(1)", x.beside(1), 0x1F8);
        DUE.is("beside(0): its copy counts then", x.beside(0), 0);
        DUE.is("beside(2): it doesn't count", x.beside(2), 0x1C0);
        DUE.is("beside(3): no other", x.beside(3), 4095);
        DUE.is("nothing is LOST by that", x.look(3), 0);
        x.lose(1, true);
        DUE.is("beside a LOST one", x.beside(1), 0x1F8);
        x.reread(2, 1);
        DUE.is("beside(0): what its copy lets", x.beside(0), 0xFE0);
    }

    private static void silent() {
        ShakeLetters x = new ShakeLetters();
        for (int i = 0; i < 16; i++) {
            x.town(i);
        }
        DUE.is("all are silent", x.silent(), 65535);
        x.letter(1, 0, 0, -1, 0);
        x.letter(5, 100, 0, -1, 0);
        x.letter(1, 200, 0, -1, 10);
        x.letter(1, 1500, 0, -1, 0);
        DUE.is("0 and 15 aren't", x.silent(), 0x7FFE);
        x.tick(1);
        x.lose(0, true);
        DUE.is("2 and 15 aren't", x.silent(), 0x7FFB);
    }

    private static void step() {
        ShakeLetters x = new ShakeLetters();
        x.town(0);
        x.town(143);
        x.town(65);
        x.ground(143, 2);
        x.ground(65, 1);
        DUE.is("STRENGTH alone", x.step(50, 0), 5);
        DUE.is("11 at most", x.step(120, 0), 11);
        DUE.is("11 itself", x.step(110, 0), 11);
        DUE.is("10", x.step(100, 0), 10);
        DUE.is("0 at least", x.step(143000, 0), 0);
        DUE.is("MORE of lake", x.step(143050, 1), 7);
        DUE.is("MORE of sand", x.step(65050, 2), 6);
        DUE.is("far: 39 and 2 less 242 / 4", x.step(390, 1), 0);
        DUE.is("5 by x: 25 / 4", x.step(60090, 2), 4);
        DUE.is("4 by y: 16 / 4", x.step(17090, 2), 6);
        DUE.is("by x and y: 2 / 4", x.step(52050, 2), 6);
        DUE.is("DEPTH 1: 9 / 4", x.step(51, 0), 3);
        DUE.is("DEPTH 2: 18 / 4", x.step(52, 0), 1);
        DUE.is("DEPTH 3: 27 / 4", x.step(83, 0), 2);
        DUE.is("together: (3 + 9) / 4", x.step(1051, 0), 3);
        DUE.is("together: (1 + 1 + 18) / 4", x.step(13092, 0), 4);
        Due.read(x, "falls 1; ground 1 more 9; ground 0 more 2", 0);
        DUE.is("FALLS 1: 25", x.step(60390, 2), 11);
        DUE.is("FALLS 1: 25 of 20 and 9", x.step(60200, 2), 4);
        DUE.is("MORE of rock", x.step(50, 0), 7);
        Due.read(x, "falls 20", 0);
        DUE.is("FALLS 20", x.step(390, 1), 11);
        DUE.is("FALLS 20: 242 / 20", x.step(150, 1), 5);
    }

    /** TOWNS 0 to 2 in CELL 0 let 4 to 6 and 3, none, and all. */
    private static ShakeLetters withSpans() {
        ShakeLetters x = new ShakeLetters();
        x.town(0);
        x.town(0);
        x.town(0);
        Due.read(x, "word 0 is 4-6; word 1 is 1; word 2 is 9", 0);
        x.letter(1, 0, 0, -1, 0);
        x.letter(1, 101, 0, -1, 0);
        x.letter(1, 102, 0, -1, 0);
        return x;
    }

    private static void miss() {
        ShakeLetters x = withSpans();
        long[] want = {4, 3, 2, 1, 0, 0, 0, 1, 2, 3, 4, 5, 5};
        for (int strength = 0; strength < want.length; strength++) {
            DUE.is("miss in 0 by " + strength, x.miss(10 * strength, 0), want[strength]);
            DUE.is("miss in 1 by " + strength, x.miss(10 * strength, 1), 12);
            DUE.is("miss in 2 by " + strength, x.miss(10 * strength, 2), 0);
            DUE.is("miss of all by " + strength, x.miss(10 * strength, -1), 12 + want[strength]);
        }
        DUE.is("miss without towns", new ShakeLetters().miss(143393, -1), 0);
    }

    private static void twoAndSplit() {
        ShakeLetters x = new ShakeLetters();
        x.town(0);
        x.town(143);
        x.town(11);
        Due.read(x, "word 0 is 8", 0);
        x.letter(1, 0, 0, -1, 0);
        x.letter(1, 100, 0, -1, 0);
        DUE.is("miss of the first", x.miss(80, -1), 8);
        DUE.is("miss of the second", x.miss(143070, -1), 9);
        DUE.is("miss of both", x.two(80, 143070), 1);
        DUE.is("miss of both, turned", x.two(143070, 80), 1);
        DUE.is("twice the same", x.two(80, 80), 8);
        DUE.is("split", x.split(80, 143070), 2);
        DUE.is("split, turned", x.split(143070, 80), 1);
        DUE.is("split of the same", x.split(80, 80), 0);
        ShakeLetters none = new ShakeLetters();
        DUE.is("two without towns", none.two(0, 1), 0);
        DUE.is("split without towns", none.split(0, 1), 0);
    }

    private static void lay(ShakeLetters x, int s, long... numbers) {
        x.sheet(s, 64, numbers.length);
        for (int i = 0; i < numbers.length; i++) {
            x.write(s, i, numbers[i]);
        }
    }

    private static void pairAndNight() {
        ShakeLetters x = new ShakeLetters();
        x.town(0);
        x.town(143);
        Due.read(x, "word 0 is 8", 0);
        x.letter(1, 0, 0, -1, 0);
        x.letter(1, 100, 0, -1, 0);
        lay(x, 0, 80, 80);
        DUE.is("pair of two", x.pair(0), 1);
        DUE.is("night of two", x.night(0), 0);
        lay(x, 0, 0, 143080, 70, 80, 143080);
        DUE.is("pair: places 1 and 3, not 3 and 4", x.pair(0), 103);
        DUE.is("night: 8 less 0", x.night(0), 8);
        lay(x, 0, 60, 60, 60, 60, 60, 60, 60, 60, 60, 60, 80, 143080);
        DUE.is("pair: places 10 and 11", x.pair(0), 1011);
        lay(x, 0, 80, 60, 143080, 80, 143080);
        DUE.is("pair: the least such number", x.pair(0), 2);
        // The least one alone need not be one of the pair: 14 from amid reaches both.
        Due.read(x, "falls 10", 0);
        lay(x, 0, 65140, 80, 143080);
        DUE.is("alone by 65140", x.miss(65140, -1), 2);
        DUE.is("alone by 80", x.miss(80, -1), 8);
        DUE.is("pair behind the least one alone", x.pair(0), 102);
        DUE.is("night from the least of all alone", x.night(0), 2);
        ShakeLetters none = new ShakeLetters();
        lay(none, 3, 0, 0, 0);
        DUE.is("pair without towns", none.pair(3), 1);
        DUE.is("night without towns", none.night(3), 0);
    }

    private static void fits() {
        ShakeLetters x = new ShakeLetters();
        x.town(0);
        x.town(0);
        x.ground(0, 1);
        Due.read(x, "word 0 is 6; word 1 is 5 - 6; word 2 is 7; word 3 is 6-6; word 4 is 11", 0);
        x.letter(1, 0, 0, -1, 0);
        x.letter(1, 1, 0, -1, 0);
        x.letter(1, 102, 0, -1, 0);
        x.letter(2, 103, 0, -1, 0);
        x.letter(4, 0, 0, -1, 5);
        x.letter(5, 0, 0, -1, 0);
        x.letter(1, 0, 0, -1, 10);
        x.letter(1, 4, 0, -1, 0);
        DUE.is("fits of STEP 6", x.fits(50), 0b11001);
        DUE.is("fits of STEP 7", x.fits(60), 0b100);
        DUE.is("fits of STEP 5", x.fits(40), 0);
        DUE.is("fits of STEP 11", x.fits(390), 0b10000000);
        x.tick(1);
        x.lose(0, true);
        DUE.is("fits then", x.fits(50), 0b1011000);
    }

    private static void falls() {
        ShakeLetters x = new ShakeLetters();
        x.town(0);
        x.houses(0, 3, 101);
        x.houses(0, 4, 101);
        x.houses(0, 5, 119);
        x.houses(0, 0, 9999);
        long[] stone = {0, 0, 0, 0, 0, 0, 10, 20, 30, 40, 50, 60};
        long[] clay = {0, 0, 0, 0, 11, 22, 33, 44, 55, 66, 77, 88};
        long[] wood = {0, 0, 0, 0, 0, 0, 0, 0, 5, 11, 17, 23};
        for (int step = 0; step < 12; step++) {
            DUE.is("STONE by " + step, x.falls(10 * step, 0, 0), stone[step]);
            DUE.is("CLAY by " + step, x.falls(10 * step, 0, 1), clay[step]);
            DUE.is("WOOD by " + step, x.falls(10 * step, 0, 2), wood[step]);
            DUE.is("all by " + step, x.falls(10 * step, 0, 3), stone[step] + clay[step] + wood[step]);
        }
        x.houses(0, 4, 9999);
        DUE.is("most CLAY", x.falls(110, 0, 1), 8799);
    }
}

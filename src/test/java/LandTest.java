/** Promises 1 to 7: a new object and the land. */
public final class LandTest {
    private static final Due DUE = new Due("LandTest");

    public static void main(String[] args) {
        newObject();
        ground();
        town();
        houses();
        built();
        of();
        tick();
        DUE.end();
    }

    private static void newObject() {
        ShakeLetters x = new ShakeLetters();
        for (int what = 0; what < 8; what++) {
            DUE.is("new: look(" + what + ")", x.look(what), 0);
        }
        DUE.is("new: status(-1)", x.status(-1), 0);
        for (int cell = 0; cell < 144; cell++) {
            DUE.is("new: ground of " + cell, x.ground(cell, 0), 0);
        }
        for (int s = 0; s < 4; s++) {
            DUE.is("new: sheet " + s, x.write(s, 0, 0), Due.MISSING);
        }
        DUE.is("new: undo()", x.undo(), Due.NONE);
        DUE.is("new: tear()", x.tear(), 0);
        DUE.is("new: wipe()", x.wipe(), 0);
        DUE.is("new: silent()", x.silent(), 0);
        DUE.is("new: news()", x.news(), 0);
    }

    private static void ground() {
        ShakeLetters x = new ShakeLetters();
        DUE.is("ground(0, 1)", x.ground(0, 1), 0);
        DUE.is("ground(0, 2)", x.ground(0, 2), 1);
        DUE.is("ground(0, 0)", x.ground(0, 0), 2);
        DUE.is("ground(143, 2)", x.ground(143, 2), 0);
        DUE.is("ground(143, 2) again", x.ground(143, 2), 2);
        x.town(143);
    }

    private static void town() {
        ShakeLetters x = new ShakeLetters();
        for (int i = 0; i < 16; i++) {
            DUE.is("town " + i, x.town(i % 2 == 0 ? 143 : 0), i);
        }
        DUE.is("two TOWNS in a CELL", x.of(14, 0), 143);
    }

    private static void houses() {
        ShakeLetters x = new ShakeLetters();
        x.town(5);
        x.town(6);
        for (int of = 0; of < 6; of++) {
            DUE.is("houses first " + of, x.houses(1, of, 9999 - of), 0);
        }
        for (int of = 0; of < 6; of++) {
            DUE.is("houses then " + of, x.houses(1, of, 0), 9999 - of);
            DUE.is("houses of the other town " + of, x.houses(0, of, 0), 0);
        }
    }

    private static void built() {
        ShakeLetters x = new ShakeLetters();
        x.sheet(0, 64, 3);
        x.town(5);
        for (int of = 0; of < 6; of++) {
            x.houses(0, of, 7);
        }
        x.write(0, 0, 9999);
        x.write(0, 1, 7);
        x.write(0, 2, 0);
        DUE.is("built: two others", x.built(0, 0), 2);
        DUE.is("built again: none", x.built(0, 0), 0);
        DUE.is("built: STONE today", x.houses(0, 3, 1), 9999);
        DUE.is("built: CLAY today", x.houses(0, 4, 1), 7);
        DUE.is("built: WOOD today", x.houses(0, 5, 1), 0);
        DUE.is("built: as they were", x.of(0, 3), 21);
        x.sheet(2, 8, 3);
        x.write(2, 0, 127);
        DUE.is("built from 8 bits", x.built(0, 2), 3);
        DUE.is("built from 8 bits: all today", x.of(0, 4), 127);
    }

    private static void of() {
        ShakeLetters x = new ShakeLetters();
        x.town(77);
        x.town(78);
        x.letter(0, 100, 0, -1, 0);
        x.letter(5, 100, 0, -1, 0);
        x.letter(0, 100, 0, -1, 10);
        x.letter(0, 0, 0, -1, 0);
        x.letter(0, 100, 0, -1, 0);
        x.lose(4, true);
        for (int of = 0; of < 6; of++) {
            x.houses(1, of, 1 << of);
        }
        DUE.is("of(1, 0)", x.of(1, 0), 78);
        DUE.is("of(1, 1)", x.of(1, 1), 4);
        DUE.is("of(1, 2)", x.of(1, 2), 1);
        DUE.is("of(1, 3)", x.of(1, 3), 7);
        DUE.is("of(1, 4)", x.of(1, 4), 56);
        DUE.is("of(0, 1)", x.of(0, 1), 1);
        DUE.is("of(0, 3)", x.of(0, 3), 0);
    }

    private static void tick() {
        ShakeLetters x = new ShakeLetters();
        DUE.is("tick(1)", x.tick(1), 1);
        for (int i = 1; i <= 24; i++) {
            DUE.is("tick(400)", x.tick(400), 1 + 400 * i);
        }
        DUE.is("tick to 9999", x.tick(398), 9999);
        DUE.is("the open DAY", x.look(6), 9999);
    }
}

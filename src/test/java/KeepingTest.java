/** Promises 44 to 54: notes, sheets, images, look and status. */
public final class KeepingTest {
    private static final Due DUE = new Due("KeepingTest");

    public static void main(String[] args) {
        notes();
        news();
        sheet();
        write();
        copy();
        images();
        look();
        status();
        DUE.end();
    }

    private static void notes() {
        ShakeLetters x = new ShakeLetters();
        x.town(0);
        Due.read(x, "word 0 is 6", 0);
        x.letter(1, 0, 0, -1, 0);
        x.tick(5);
        DUE.is("note(40)", x.note(40), 0);
        x.tick(3);
        DUE.is("note(143393)", x.note(143393), 1);
        DUE.is("its SHAKE", x.noted(1, 0), 143393);
        DUE.is("its MISS", x.noted(0, 1), 2);
        DUE.is("its DAY", x.noted(0, 2), 5);
        DUE.is("its MISS now", x.noted(0, 3), 2);
        DUE.is("the other's DAY", x.noted(1, 2), 8);
        x.lose(0, true);
        DUE.is("its MISS then", x.noted(0, 1), 2);
        DUE.is("its MISS now that it is LOST", x.noted(0, 3), 0);
        for (int i = 2; i < 20; i++) {
            DUE.is("note " + i, x.note(0), i);
        }
    }

    private static void news() {
        ShakeLetters x = new ShakeLetters();
        x.town(0);
        Due.read(x, "word 0 is 6; word 1 is 6-7; word 2 is 2", 0);
        x.letter(1, 0, 0, -1, 0);
        for (int i = 0; i < 20; i++) {
            x.note(i == 19 ? 70 : 40);
        }
        DUE.is("no news", x.news(), 0);
        x.reread(0, 1);
        DUE.is("news of the last", x.news(), 1 << 19);
        x.reread(0, 0);
        DUE.is("no news again", x.news(), 0);
        x.reread(0, 2);
        DUE.is("a like MISS from elsewhere is none", x.news(), 1 << 19);
        x.town(0);
        x.letter(1, 100, 0, -1, 0);
        DUE.is("news of all", x.news(), (1 << 20) - 1);
    }

    private static void sheet() {
        ShakeLetters x = new ShakeLetters();
        for (int bits : new int[] {8, 16, 64}) {
            DUE.is("sheet of 40, " + bits, x.sheet(3, bits, 40), 40);
            DUE.is("write the last", x.write(3, 39, 5), 0);
            DUE.is("sheet of 40 anew", x.sheet(3, bits, 40), 40);
            DUE.is("all are 0", x.write(3, 39, 5), 0);
            DUE.is("sheet of none", x.sheet(3, bits, 0), 0);
        }
        DUE.is("missing", x.sheet(3, 0, 40), 0);
    }

    private static void dueWritten(ShakeLetters x, int s, long v, long kept) {
        x.write(s, 1, v);
        DUE.is("sheet " + s + " keeps of " + v, x.write(s, 1, 0), kept);
    }

    private static void write() {
        ShakeLetters x = new ShakeLetters();
        x.sheet(0, 8, 2);
        x.sheet(1, 16, 2);
        x.sheet(2, 64, 2);
        for (long v : new long[] {0, 1, -1, 127, 128, 255, 256, 32767, 32768, 65536, Long.MIN_VALUE, Long.MAX_VALUE}) {
            dueWritten(x, 0, v, (byte) v);
            dueWritten(x, 1, v, (short) v);
            dueWritten(x, 2, v, v);
        }
        dueWritten(x, 2, Due.BEYOND, Due.BEYOND);
        DUE.is("that was no finding", x.status(-1), 0);
        DUE.is("the other number", x.write(0, 0, 1), 0);
    }

    private static void fillWithPlaces(ShakeLetters x, int s, int n) {
        for (int i = 0; i < n; i++) {
            x.write(s, i, 10 * s + i);
        }
    }

    private static void dueRow(ShakeLetters x, String what, int s, long... want) {
        for (int i = 0; i < want.length; i++) {
            long was = x.write(s, i, 0);
            x.write(s, i, was);
            DUE.is(what + ": number " + i, was, want[i]);
        }
    }

    private static void copy() {
        ShakeLetters x = new ShakeLetters();
        x.sheet(1, 16, 5);
        x.sheet(2, 16, 4);
        fillWithPlaces(x, 1, 5);
        fillWithPlaces(x, 2, 4);
        DUE.is("copy of none", x.copy(1, 5, 2, 4, 0), 0);
        DUE.is("copy of two", x.copy(1, 3, 2, 0, 2), 2);
        dueRow(x, "copy of two", 2, 13, 14, 22, 23);
        dueRow(x, "copy of two leaves", 1, 10, 11, 12, 13, 14);
        DUE.is("copy up in itself", x.copy(1, 0, 1, 1, 4), 4);
        dueRow(x, "copy up in itself", 1, 10, 10, 11, 12, 13);
        DUE.is("copy down in itself", x.copy(1, 1, 1, 0, 4), 4);
        dueRow(x, "copy down in itself", 1, 10, 11, 12, 13, 13);
        DUE.is("copy whole", x.copy(2, 0, 1, 0, 4), 4);
        dueRow(x, "copy whole", 1, 13, 14, 22, 23, 13);
    }

    private static void images() {
        ShakeLetters x = new ShakeLetters();
        x.tick(2);
        DUE.is("image()", x.image(), 1);
        x.tick(3);
        DUE.is("undo()", x.undo(), 2);
        x.tick(4);
        DUE.is("undo() again", x.undo(), 2);
        x.tick(5);
        DUE.is("image() anew", x.image(), 1);
        x.tick(1);
        DUE.is("undo() to the latest", x.undo(), 7);
        DUE.is("tear()", x.tear(), 1);
        DUE.is("tear() again", x.tear(), 0);
        DUE.is("the DAY stays", x.look(6), 7);
    }

    private static ShakeLetters filled() {
        ShakeLetters x = new ShakeLetters();
        x.town(5);
        x.town(66);
        x.ground(66, 1);
        for (int of = 0; of < 6; of++) {
            x.houses(1, of, 100 + of);
        }
        Due.read(x, "word 0 is 3 - 5; falls 2; reckon 1 more 9", 0);
        Due.read(x, "ground 1 more 5", 1);
        x.letter(1, 0, 1004, -1, 0);
        x.letter(3, 100, 1002, 0, 10);
        x.letter(4, 100, 1002, -1, 3);
        x.lose(2, true);
        x.note(66050);
        x.tick(1);
        return x;
    }

    private static void look() {
        ShakeLetters x = filled();
        x.letter(5, 0, 0, -1, 0);
        Due.feed(x, "ab");
        long[] want = {2, 4, 1, 1, 2, 1, 1, 2};
        for (int what = 0; what < 8; what++) {
            DUE.is("look(" + what + ")", x.look(what), want[what]);
        }
    }

    private static void status() {
        ShakeLetters x = new ShakeLetters();
        x.image();
        x.town(-1);
        x.town(-1);
        x.town(0);
        x.letter(0, 0, 0, -1, 0);
        x.as(0, 1);
        x.why(0);
        x.lose(0, true);
        x.reread(0, 0);
        x.write(0, 0, 0);
        x.sheet(0, 8, -1);
        x.sheet(0, 8, -1);
        x.tick(400);
        x.undo();
        long[] want = {2, 0, 1, 1, 1, 1, 2};
        for (int which = 0; which < 7; which++) {
            DUE.is("status(" + which + ")", x.status(which), want[which]);
        }
        DUE.is("status(-1)", x.status(-1), 8);
        DUE.is("status(7)", x.status(7), Due.BEYOND);
        DUE.is("it is counted from then on", x.status(0), 3);
        DUE.is("status(-2)", x.status(-2), Due.BEYOND);
        DUE.is("status(least)", x.status(Integer.MIN_VALUE), Due.BEYOND);
        DUE.is("status(most)", x.status(Integer.MAX_VALUE), Due.BEYOND);
        DUE.is("all then", x.status(-1), 12);
        DUE.is("BEYOND then", x.status(0), 6);
        for (int i = 0; i < 16; i++) {
            x.town(0);
        }
        x.town(0);
        DUE.is("FULL", x.status(1), 1);
        DUE.is("a FAULT is no finding", x.text(0), -1);
        DUE.is("all at last", x.status(-1), 13);
    }
}

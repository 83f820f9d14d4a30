import java.util.ArrayList;
import java.util.List;
import java.util.function.LongSupplier;

/** Tells every answer that is not the one that is due, and ends the test with it. */
final class Due {
    static final long BEYOND = -1000000001;
    static final long FULL = -1000000002;
    static final long KIND = -1000000003;
    static final long NONE = -1000000004;
    static final long STATE = -1000000005;
    static final long MISSING = -1000000006;
    static final long SIZE = -1000000007;

    private final String test;
    private int asked = 0;
    private int wrong = 0;

    Due(String test) {
        this.test = test;
    }

    void is(String what, long got, long want) {
        asked++;
        if (got != want) {
            wrong++;
            System.out.println(test + ": " + what + " answered " + got + ", due is " + want);
        }
    }

    /** The call answers a finding, is counted once as that, and changes nothing else. */
    void finds(ShakeLetters x, String what, long finding, LongSupplier call) {
        List<Long> before = seen(x);
        int which = (int) (BEYOND - finding);
        int counted = x.status(which);
        int all = x.status(-1);
        is(what, call.getAsLong(), finding);
        is(what + ": its findings in status()", x.status(which), counted + 1);
        is(what + ": all findings in status()", x.status(-1), all + 1);
        is(what + ": changed nothing", before.equals(seen(x)) ? 1 : 0, 1);
    }

    void end() {
        System.out.println(test + ": " + asked + " asked, " + wrong + " wrong");
        if (wrong != 0) {
            System.exit(1);
        }
    }

    /** THE TAPE gets the signs of a text, a byte each. */
    static void feed(ShakeLetters x, String signs) {
        for (int i = 0; i < signs.length(); i++) {
            x.feed(signs.charAt(i), 1);
        }
    }

    /** Reads signs as a TEXT from an empty TAPE, and leaves it empty: what text() answered. */
    static int read(ShakeLetters x, String signs, int from) {
        x.wipe();
        feed(x, signs);
        int answer = x.text(from);
        x.wipe();
        return answer;
    }

    /** All that can be seen of an object without changing it, but for status(). */
    static List<Long> seen(ShakeLetters x) {
        List<Long> all = new ArrayList<>();
        for (int what = 0; what < 8; what++) {
            all.add((long) x.look(what));
        }
        for (int what = 0; what < 24; what++) {
            all.add(what < 8 ? (long) x.law(what) : (long) x.means(what - 8));
            all.add((long) x.why(what));
        }
        for (int town = 0; town < x.look(0); town++) {
            seeTown(x, town, all);
        }
        for (int letter = 0; letter < x.look(1); letter++) {
            for (int what = 0; what < 9; what++) {
                all.add((long) x.told(letter, what));
            }
            all.add((long) x.counts(letter));
        }
        for (int note = 0; note < x.look(5); note++) {
            for (int what = 0; what < 4; what++) {
                all.add((long) x.noted(note, what));
            }
        }
        seeSheets(x, all);
        return all;
    }

    private static void seeTown(ShakeLetters x, int town, List<Long> all) {
        for (int what = 0; what < 5; what++) {
            all.add((long) x.of(town, what));
        }
        for (int of = 0; of < 6; of++) {
            int was = x.houses(town, of, 0);
            x.houses(town, of, was);
            all.add((long) was);
        }
        int cell = x.of(town, 0);
        int ground = x.ground(cell, 0);
        x.ground(cell, ground);
        all.add((long) ground);
    }

    private static void seeSheets(ShakeLetters x, List<Long> all) {
        for (int s = 0; s < 4; s++) {
            for (int i = 0; i <= 40; i++) {
                long was = x.write(s, i, 0);
                all.add(was);
                if (was == MISSING || was == BEYOND) {
                    break;
                }
                x.write(s, i, was);
            }
            // Sheets of unlike bits can't be copied into one another.
            for (int t = 0; t < 4; t++) {
                all.add((long) x.copy(s, 0, t, 0, 0));
            }
        }
    }
}

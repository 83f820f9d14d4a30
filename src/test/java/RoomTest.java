import java.lang.management.ManagementFactory;

/** All calls of a run live in one room: what is made is made by the constructor, and that is little. */
public final class RoomTest {
    private static final Due DUE = new Due("RoomTest");
    private static final com.sun.management.ThreadMXBean THREADS =
            (com.sun.management.ThreadMXBean) ManagementFactory.getThreadMXBean();

    public static void main(String[] args) {
        allCalls(new ShakeLetters());
        long made = allocated(() -> new ShakeLetters());
        ShakeLetters[] objects = new ShakeLetters[20];
        for (int i = 0; i < objects.length; i++) {
            objects[i] = new ShakeLetters();
        }
        long used = allocated(() -> {
            for (ShakeLetters x : objects) {
                allCalls(x);
            }
        });
        System.out.println("RoomTest: an object takes " + made + " bytes, calls take " + used);
        DUE.is("an object takes less than 32 KiB", made < 32768 ? 1 : 0, 1);
        // The measuring itself makes a little.
        DUE.is("calls take next to nothing", used < 8192 ? 1 : 0, 1);
        DUE.end();
    }

    private static long allocated(Runnable what) {
        long thread = Thread.currentThread().getId();
        long before = THREADS.getThreadAllocatedBytes(thread);
        what.run();
        return THREADS.getThreadAllocatedBytes(thread) - before;
    }

    private static void feed(ShakeLetters x) {
        x.wipe();
        x.feed(0x776f7264, 4);
        x.feed(0x20302069, 4);
        x.feed(0x7320362d, 4);
        x.feed(0x38, 1);
        x.text(0);
    }

    private static void allCalls(ShakeLetters x) {
        x.town(65);
        x.ground(65, 1);
        x.houses(0, 3, 100);
        x.of(0, 2);
        x.tick(1);
        feed(x);
        x.letter(1, 0, 1004, -1, 0);
        x.letter(3, 0, 1004, 0, 0);
        for (int letter = 0; letter < 30; letter++) {
            x.as(letter, 3);
            x.told(letter, 5);
            x.lose(letter, letter % 5 == 0);
            x.reread(letter, 0);
            x.counts(letter);
            x.lets(letter);
            x.root(letter);
            x.tree(letter);
            x.days(letter);
            x.day(letter, 0);
            x.evening(letter);
            x.beside(letter);
        }
        x.means(0);
        x.law(4);
        x.why(8);
        shakes(x);
        x.image();
        x.undo();
        x.tear();
        x.look(2);
        x.status(-1);
    }

    private static void shakes(ShakeLetters x) {
        x.span(0);
        x.silent();
        x.step(65080, 0);
        x.miss(65080, -1);
        x.two(65080, 80);
        x.split(65080, 80);
        x.sheet(0, 64, 12);
        x.pair(0);
        x.night(0);
        x.fits(65080);
        x.falls(65080, 0, 3);
        x.weight(65080);
        x.odds(0, -1);
        x.best(1);
        x.narrow(2, 90);
        x.judge(3, 0);
        x.next(0);
        x.without(0, 0);
        x.note(65080);
        x.noted(0, 3);
        x.news();
        x.sheet(1, 16, 3);
        x.built(0, 1);
        x.write(0, 1, 80);
        x.copy(0, 0, 0, 1, 3);
    }
}

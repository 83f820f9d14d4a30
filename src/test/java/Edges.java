import java.lang.reflect.InvocationTargetException;
import java.lang.reflect.Method;
import java.lang.reflect.Modifier;
import java.util.ArrayList;
import java.util.Arrays;
import java.util.HashMap;
import java.util.HashSet;
import java.util.List;
import java.util.Map;
import java.util.Set;

/**
 * Boundary cases of the document, each with a name of its own: a run of calls on a new object, written as text,
 * "town(0) = 0; of(0, 0) = 0". A call that is due to answer a finding, and one that only tells, is also asked whether
 * it left all as it was: two new objects get the same run, one of them that call too, and then every view of both is
 * alike. No object is used for more than the document's 512 calls. The Model, by which ModelTest asks its random runs,
 * must answer the same.
 */
final class Edges {
    private static final int MOST_CALLS = 512;
    private static final String[] FINDINGS = {"BEYOND", "FULL", "KIND", "NONE", "STATE", "MISSING", "SIZE"};
    private static final Map<String, Long> NAMES = names();
    private static final Map<String, Method> METHODS = methods();
    private static final Set<String> TELLING = Set.of("of", "as", "told", "counts", "lets", "root", "tree", "days",
            "day", "evening", "means", "law", "why", "span", "beside", "silent", "step", "miss", "two", "split", "pair",
            "night", "fits", "falls", "weight", "odds", "best", "narrow", "judge", "next", "without", "noted", "news",
            "look", "status");

    /**
     * A run that leaves something of everything: TOWNS 0 to 3; LETTERS 0 LETTER, 1 EYE, 2 HEARD (from 0, LOST),
     * 3 COPIED (from 1), 4 BENT (LEAN 3), 5 TORN, 6 LETTER (LOST), 7 EYE; TEXTS 0, 1; NOTES 0, 1; sheets 0 (64 bits,
     * 3 numbers), 1 (16 bits, 4), 2 (8 bits, 2), 3 MISSING; DAY 5; an image that was kept on DAY 2, with TOWNS 0 to 2,
     * LETTERS 0 to 6 and NOTE 0; on THE TAPE a TEXT of 7 bytes.
     */
    static final String WORLD = join("town(5)", "town(66)", "town(143)", "ground(66, 1)", "ground(143, 2)",
            "houses(0, 0, 11)", "houses(1, 2, 12)", "houses(1, 3, 1300)", "houses(2, 4, 140)", "houses(2, 5, 9999)",
            text("word 0 is 3-5;word 1 is 7;falls 2;reckon 1 more 9", 0), text("ground 1 more 5;word 2 is 0", 1),
            "letter(0, 0, 1004, -1, 0)", "letter(1, 101, 1001, -1, 0)", "letter(2, 100, 1090, 0, 0)",
            "letter(3, 2, 3, 1, 10)", "letter(4, 202, 9992, -1, 13)", "letter(5, 0, 1000, -1, 0)",
            "letter(0, 215, 54, -1, 990)", "lose(6, true)", "note(66050)", row(0, 64, 5, 66050, 143393),
            row(1, 16, 1, 2, 3, 30000), row(2, 8, 100, 7), "tick(2)", "image()", "tick(3)", "houses(0, 0, 77)",
            "ground(5, 2)", "lose(2, true)", "reread(1, 0)", "note(80)", "town(20)", "letter(1, 305, 4, -1, 0)",
            fed("falls 9"));

    private static final List<List<Call>> VIEWS = views();

    private record Call(String written, Method method, Object[] given, long[] numbers, String due) {
    }

    /** A new object and how often it was called. */
    private static final class Used {
        private final ShakeLetters x = new ShakeLetters();
        private int calls = 0;

        long call(Call c) {
            calls++;
            if (calls > MOST_CALLS) {
                throw new IllegalStateException("the test calls an object more than " + MOST_CALLS + " times");
            }
            try {
                return ((Number) c.method.invoke(x, c.given)).longValue();
            } catch (InvocationTargetException | IllegalAccessException e) {
                throw new IllegalStateException(c.written + " threw", e.getCause());
            }
        }

        List<Long> callAll(List<Call> calls) {
            List<Long> answers = new ArrayList<>();
            for (Call c : calls) {
                answers.add(call(c));
            }
            return answers;
        }
    }

    private final String test;
    private final int[] edgesOf = new int[55];
    private final Set<String> names = new HashSet<>();
    private int promise = 0;
    private String act = "";
    private int edges = 0;
    private int wrong = 0;

    Edges(String test) {
        this.test = test;
    }

    /** The promise that the next cases are of. */
    void promise(int number, String name) {
        promise = number;
        act = name;
    }

    private String begun(String name) {
        String whole = "promise " + promise + ", " + act + ": " + name;
        edges++;
        edgesOf[promise]++;
        if (!names.add(whole)) {
            tell(whole, "this name is there twice");
        }
        return whole;
    }

    void edge(String name, String... runs) {
        String whole = begun(name);
        List<Call> calls = parsed(join(runs));
        Used used = new Used();
        Model model = new Model();
        boolean asked = false;
        for (int i = 0; i < calls.size(); i++) {
            Call c = calls.get(i);
            long got = used.call(c);
            long second = model.call(c.method.getName(), c.numbers);
            if (c.due == null) {
                dueNoFinding(whole, c, got);
                continue;
            }
            asked = true;
            if (got != value(c.due)) {
                tell(whole, c.written + " answered " + got + ", due is " + c.due);
            }
            if (second != value(c.due)) {
                tell(whole, "the Model answered " + second + " to " + c.written + ", due is " + c.due);
            }
            if (leavesAll(c)) {
                dueNoChange(whole, calls.subList(0, i), c);
            }
        }
        if (!asked) {
            tell(whole, "it asks nothing");
        }
    }

    /** One case for each value, which stands for % in its name and in its calls. */
    void each(String name, String values, String... runs) {
        for (String v : values.trim().split(" +")) {
            edge(name.replace("%", v), join(runs).replace("%", v));
        }
    }

    /** Two runs leave the same behind, but for status(). */
    void alike(String name, String one, String other) {
        dueAlike(begun(name), parsed(one), parsed(other));
    }

    /** Two runs do not leave the same behind: what alike() looks at shows the difference. */
    void unlike(String name, String one, String other) {
        String whole = begun(name);
        if (firstUnlike(parsed(one), parsed(other)) == null) {
            tell(whole, "nothing tells them apart");
        }
    }

    void is(String name, long got, long want) {
        String whole = begun(name);
        if (got != want) {
            tell(whole, "it answered " + got + ", due is " + want);
        }
    }

    void noTown(String call) {
        each(call.replace("%", "TOWN") + " of TOWN % (0 to 3 are there)", "-1 4 16 MIN MAX", WORLD, call + " = BEYOND");
        edge(call.replace("%", "TOWN") + " of TOWN 0 where none is yet", call.replace("%", "0") + " = BEYOND");
        edge(call.replace("%", "TOWN") + " of TOWN 16 where all are there", times(16, "town(7)"),
                call.replace("%", "16") + " = BEYOND");
    }

    void noLetter(String call) {
        each(call.replace("%", "LETTER") + " of LETTER % (0 to 7 are there)", "-1 8 30 MIN MAX", WORLD,
                call + " = BEYOND");
        edge(call.replace("%", "LETTER") + " of LETTER 0 where none is yet", "town(7)",
                call.replace("%", "0") + " = BEYOND");
        edge(call.replace("%", "LETTER") + " of LETTER 30 where all are there", "town(7)",
                times(30, "letter(0, 0, 0, -1, 0)"), call.replace("%", "30") + " = BEYOND");
    }

    void noShake(String call) {
        String name = call.replace("%", "SHAKE");
        each(name + ", DEPTH 4: %", "4 143394", WORLD, call + " = BEYOND");
        each(name + ", DEPTH 9: %", "9", WORLD, call + " = BEYOND");
        each(name + ", STRENGTH 40: %", "400 143400", WORLD, call + " = BEYOND");
        each(name + ", STRENGTH 99: %", "993", WORLD, call + " = BEYOND");
        each(name + ", CELL 144: %", "144000 144393", WORLD, call + " = BEYOND");
        each(name + ", below 0: %", "-1 -10 -1000 -143393 MIN", WORLD, call + " = BEYOND");
        each(name + ", the greatest: %", "MAX", WORLD, call + " = BEYOND");
    }

    void noDepth(String call) {
        each(call.replace("%", "DEPTH") + " of DEPTH %", "-1 4 MIN MAX", WORLD, call + " = BEYOND");
    }

    void noSheet(String call) {
        each(call.replace("%", "sheet") + " of sheet %", "-1 4 MIN MAX", WORLD, call + " = BEYOND");
    }

    /** Each promise from the first to the last has cases, and none of them was wrong. */
    void end(int first, int last) {
        for (int number = first; number <= last; number++) {
            if (edgesOf[number] == 0) {
                tell("promise " + number, "it has no case");
            }
        }
        System.out.println(test + ": " + edges + " cases, " + wrong + " wrong");
        if (wrong != 0) {
            System.exit(1);
        }
    }

    // ---- pieces of runs

    static String join(String... runs) {
        return String.join("; ", Arrays.stream(runs).filter(r -> !r.isEmpty()).toList());
    }

    static String times(int n, String run) {
        String[] all = new String[n];
        Arrays.fill(all, run);
        return join(all);
    }

    /** THE TAPE gets these signs, a byte each. */
    static String fed(String signs) {
        List<String> feeds = new ArrayList<>();
        for (int i = 0; i < signs.length(); i += 4) {
            int n = Math.min(4, signs.length() - i);
            int bytes = 0;
            for (int j = 0; j < n; j++) {
                bytes = bytes << 8 | signs.charAt(i + j);
            }
            feeds.add("feed(" + bytes + ", " + n + ")");
        }
        return join(feeds.toArray(new String[0]));
    }

    static String text(String signs, int from) {
        return join(fed(signs), "text(" + from + ")");
    }

    /** A sheet of these numbers. */
    static String row(int s, int bits, long... numbers) {
        List<String> calls = new ArrayList<>();
        calls.add("sheet(" + s + ", " + bits + ", " + numbers.length + ")");
        for (int i = 0; i < numbers.length; i++) {
            calls.add("write(" + s + ", " + i + ", " + numbers[i] + ")");
        }
        return join(calls.toArray(new String[0]));
    }

    // ---- what is asked

    private void tell(String whole, String what) {
        wrong++;
        System.out.println(test + ": " + whole + ": " + what);
    }

    private void dueNoFinding(String whole, Call c, long got) {
        if (got < -1000000000 && got >= -1000000007) {
            tell(whole, c.written + " answered the finding " + got + " on the way");
        }
    }

    private static boolean isFinding(Call c) {
        return Arrays.asList(FINDINGS).contains(c.due);
    }

    /** A FAULT is no finding, but THE TAPE stays and no TEXT comes: nothing changes either. */
    private static boolean leavesAll(Call c) {
        boolean fault = c.method.getName().equals("text") && c.due.startsWith("-");
        return fault || isFinding(c) || TELLING.contains(c.method.getName());
    }

    private void dueNoChange(String whole, List<Call> before, Call c) {
        List<Call> with = new ArrayList<>(before);
        with.add(c);
        dueAlike(whole + ": after " + c.written, before, with);
        Used one = new Used();
        Used other = new Used();
        one.callAll(before);
        other.callAll(with);
        for (int which = -1; which < FINDINGS.length; which++) {
            boolean counted = isFinding(c) && (which == -1 || FINDINGS[which].equals(c.due));
            Call status = parsedCall("status(" + which + ")");
            long was = one.call(status);
            long is = other.call(status);
            if (is != was + (counted ? 1 : 0)) {
                tell(whole, status.written + " was " + was + " before " + c.written + " and is " + is);
            }
        }
    }

    private void dueAlike(String whole, List<Call> one, List<Call> other) {
        String unlike = firstUnlike(one, other);
        if (unlike != null) {
            tell(whole, unlike);
        }
    }

    private static String firstUnlike(List<Call> one, List<Call> other) {
        for (List<Call> view : VIEWS) {
            Used a = new Used();
            Used b = new Used();
            a.callAll(one);
            b.callAll(other);
            List<Long> seenOne = a.callAll(view);
            List<Long> seenOther = b.callAll(view);
            for (int i = 0; i < view.size(); i++) {
                if (!seenOne.get(i).equals(seenOther.get(i))) {
                    return view.get(i).written + " answers " + seenOther.get(i) + ", not " + seenOne.get(i);
                }
            }
        }
        return null;
    }

    // ---- all that can be seen of an object

    /** Each view is for an object that is used no more behind it, so that it may change what it looks at. */
    private static List<List<Call>> views() {
        List<String> keptOnes = List.of(viewOfGround(), viewOfTowns(), viewOfLetters(), viewOfCounting(), viewOfTexts(),
                viewOfNotes());
        List<List<Call>> all = new ArrayList<>();
        for (String view : keptOnes) {
            all.add(parsed(view));
            all.add(parsed(join("undo()", view)));
        }
        all.add(parsed(viewOfSheets()));
        all.add(parsed(viewOfTape()));
        return all;
    }

    private static String over(int n, String call) {
        String[] all = new String[n];
        for (int i = 0; i < n; i++) {
            all[i] = call.replace("%", String.valueOf(i));
        }
        return join(all);
    }

    private static String viewOfGround() {
        return join(over(8, "look(%)"), over(144, "ground(%, 0)"));
    }

    private static String viewOfTowns() {
        List<String> all = new ArrayList<>();
        for (int town = 0; town < 16; town++) {
            all.add(over(5, "of(" + town + ", %)"));
            all.add(over(6, "houses(" + town + ", %, 0)"));
        }
        return join(all.toArray(new String[0]));
    }

    private static String viewOfLetters() {
        List<String> all = new ArrayList<>();
        for (int letter = 0; letter < 30; letter++) {
            all.add(over(9, "told(" + letter + ", %)"));
        }
        return join(all.toArray(new String[0]));
    }

    private static String viewOfCounting() {
        return join(over(30, "counts(%)"), over(30, "lets(%)"), over(30, "root(%)"), over(30, "day(%, 0)"),
                over(16, "span(%)"), "silent()");
    }

    private static String viewOfTexts() {
        String laws = join(over(8, "law(%)"), over(16, "means(%)"), over(24, "why(%)"));
        return join("look(4)", laws, "tick(1)", laws, "tick(100)", laws);
    }

    private static String viewOfNotes() {
        List<String> all = new ArrayList<>();
        for (int note = 0; note < 20; note++) {
            all.add(over(4, "noted(" + note + ", %)"));
        }
        return join("news()", join(all.toArray(new String[0])));
    }

    /** The numbers, how many there are, and by what comes back of a great number how many bits they have. */
    private static String viewOfSheets() {
        List<String> all = new ArrayList<>();
        for (int s = 0; s < 4; s++) {
            all.add(over(41, "write(" + s + ", %, 0)"));
            all.add("write(" + s + ", 0, 4328719365)");
            all.add("write(" + s + ", 0, 0)");
            all.add(over(4, "copy(" + s + ", 0, %, 0, 0)"));
        }
        return join(all.toArray(new String[0]));
    }

    private static String viewOfTape() {
        return join("look(7)", "text(0)", over(8, "law(%)"), over(16, "means(%)"), over(24, "why(%)"), "wipe()");
    }

    // ---- reading runs

    private static Map<String, Long> names() {
        Map<String, Long> all = new HashMap<>();
        for (int i = 0; i < FINDINGS.length; i++) {
            all.put(FINDINGS[i], Due.BEYOND - i);
        }
        all.put("MIN", (long) Integer.MIN_VALUE);
        all.put("MAX", (long) Integer.MAX_VALUE);
        all.put("LMIN", Long.MIN_VALUE);
        all.put("LMAX", Long.MAX_VALUE);
        all.put("true", 1L);
        all.put("false", 0L);
        return all;
    }

    private static Map<String, Method> methods() {
        Map<String, Method> all = new HashMap<>();
        for (Method m : ShakeLetters.class.getDeclaredMethods()) {
            if (Modifier.isPublic(m.getModifiers())) {
                all.put(m.getName(), m);
            }
        }
        return all;
    }

    /** A name, a number, or a set by its bits: 0b101. */
    private static long value(String written) {
        Long named = NAMES.get(written);
        if (named != null) {
            return named;
        }
        return written.startsWith("0b") ? Long.parseLong(written.substring(2), 2) : Long.parseLong(written);
    }

    private static List<Call> parsed(String run) {
        List<Call> calls = new ArrayList<>();
        for (String written : run.isEmpty() ? new String[0] : run.split("; ")) {
            calls.add(parsedCall(written.trim()));
        }
        return calls;
    }

    private static Call parsedCall(String written) {
        int open = written.indexOf('(');
        int close = written.indexOf(')');
        int equals = written.indexOf('=');
        Method method = METHODS.get(written.substring(0, open));
        String inside = written.substring(open + 1, close).trim();
        String[] parts = inside.isEmpty() ? new String[0] : inside.split(" *, *");
        Class<?>[] types = method.getParameterTypes();
        if (parts.length != types.length) {
            throw new IllegalStateException("the test writes " + written);
        }
        Object[] given = new Object[parts.length];
        long[] numbers = new long[parts.length];
        for (int i = 0; i < parts.length; i++) {
            long v = value(parts[i]);
            numbers[i] = v;
            given[i] = types[i] == boolean.class ? (Object) (v != 0)
                    : types[i] == long.class ? (Object) v : (Object) Math.toIntExact(v);
        }
        return new Call(written, method, given, numbers, equals < 0 ? null : written.substring(equals + 1).trim());
    }
}

import java.lang.reflect.Method;
import java.util.Arrays;
import java.util.HashMap;
import java.util.Map;
import java.util.Random;
import java.util.TreeMap;

/** Random runs of calls (the same ones each time) beside the Model: every answer is the same. */
public final class ModelTest {
    private static final int CALLS = 512;
    private static final int[] ODD = {-1, -2, 0, 1, 2, 3, 4, 5, 6, 7, 8, 9, 10, 11, 12, 15, 16, 20, 23, 24, 30, 39, 40,
        41, 99, 100, 101, 143, 144, 400, 401, 999, 1000, 9999, 10000, 143393, 144000, Integer.MAX_VALUE,
        Integer.MIN_VALUE};
    private static final String[] PIECES = {"word", "is", "reckon", "more", "falls", "ground", ";", "-", " ", "0", "1",
        "2", "3", "7", "11", "12", "15", "16", "20", "21", "99", "100", "A", "x", "\t", "00", "  "};

    private final Random random;
    private final ShakeLetters x = new ShakeLetters();
    private final Model model = new Model();
    private final StringBuilder told = new StringBuilder();
    private final Map<String, Integer> good;
    private int calls = 0;
    private int wrong = 0;

    private ModelTest(long seed, Map<String, Integer> good) {
        random = new Random(seed);
        this.good = good;
    }

    public static void main(String[] args) throws Exception {
        int runs = args.length > 0 ? Integer.parseInt(args[0]) : 300;
        Map<String, Integer> good = new TreeMap<>();
        int wrong = 0;
        for (int seed = 0; seed < runs && wrong == 0; seed++) {
            wrong += new ModelTest(seed, good).run(seed);
        }
        for (String name : METHODS.keySet()) {
            if (good.getOrDefault(name, 0) < runs / 10) {
                System.out.println("ModelTest: " + name + " was hardly ever answered without a finding");
                wrong++;
            }
        }
        System.out.println("ModelTest: " + runs + " runs, " + wrong + " wrong");
        if (wrong != 0) {
            System.exit(1);
        }
    }

    private static final Map<String, Method> METHODS = methods();

    private static Map<String, Method> methods() {
        Map<String, Method> all = new HashMap<>();
        for (Method m : ShakeLetters.class.getDeclaredMethods()) {
            if (java.lang.reflect.Modifier.isPublic(m.getModifiers())) {
                all.put(m.getName(), m);
            }
        }
        return all;
    }

    private int run(long seed) throws Exception {
        // Some runs have a rich land at once, so that later calls have something to tell of.
        if (seed % 4 != 0) {
            settle((int) (seed % 3));
        }
        String[] names = METHODS.keySet().toArray(new String[0]);
        Arrays.sort(names);
        while (calls < CALLS && wrong == 0) {
            String name = names[random.nextInt(names.length)];
            int luck = random.nextInt(100);
            if (luck < 6) {
                writeText();
            } else if (luck < 9) {
                laySheet();
            } else if (luck < 20) {
                call("letter", arguments("letter"));
            } else {
                call(name, luck < 90 ? arguments(name) : wildArguments(name));
            }
        }
        if (wrong != 0) {
            System.out.println("run " + seed + ":\n" + told);
        }
        return wrong;
    }

    private void settle(int richness) throws Exception {
        int towns = richness == 0 ? 3 : richness == 1 ? 16 : 8;
        for (int i = 0; i < towns; i++) {
            int cell = random.nextInt(144);
            call("town", cell);
            call("ground", cell, random.nextInt(3));
        }
        writeText();
        for (int i = 0; i < 2 * towns && i < 24; i++) {
            call("letter", arguments("letter"));
        }
    }

    private void writeText() throws Exception {
        StringBuilder text = new StringBuilder();
        int rules = 1 + random.nextInt(random.nextInt(4) == 0 ? 7 : 5);
        for (int i = 0; i < rules; i++) {
            text.append(i == 0 ? "" : random.nextBoolean() ? ";" : "; ").append(rule());
        }
        if (random.nextInt(3) == 0) {
            spoil(text);
        }
        call("wipe");
        for (int i = 0; i < text.length(); i += 4) {
            int n = Math.min(4, text.length() - i);
            int bytes = random.nextInt();
            for (int j = 0; j < n; j++) {
                bytes = bytes << 8 | text.charAt(i + j);
            }
            call("feed", bytes, n);
        }
        call("text", random.nextInt(4) == 0 ? random.nextInt(200) : 0);
    }

    private String rule() {
        switch (random.nextInt(5)) {
            case 0:
                return "falls " + (1 + random.nextInt(20));
            case 1:
                return "reckon " + random.nextInt(4) + " more " + random.nextInt(4);
            case 2:
                return "ground " + random.nextInt(3) + " more " + random.nextInt(10);
            case 3:
                return "word " + random.nextInt(16) + " is " + random.nextInt(12);
            default: {
                int first = random.nextInt(12);
                return "word " + random.nextInt(16) + " is " + first + "-" + (first + random.nextInt(12 - first));
            }
        }
    }

    private void spoil(StringBuilder text) {
        int at = random.nextInt(text.length());
        String piece = PIECES[random.nextInt(PIECES.length)];
        switch (random.nextInt(4)) {
            case 0:
                text.insert(at, piece);
                break;
            case 1:
                text.setCharAt(at, (char) random.nextInt(256));
                break;
            case 2:
                text.setLength(at);
                break;
            default:
                text.deleteCharAt(at);
                break;
        }
    }

    private void laySheet() throws Exception {
        int s = random.nextInt(4);
        int luck = random.nextInt(3);
        int n = luck == 0 ? 3 : luck == 1 ? 2 + random.nextInt(6) : random.nextInt(12);
        call("sheet", s, luck == 0 ? 16 : luck == 1 ? 64 : 8, n);
        for (int i = 0; i < n; i++) {
            call("write", s, i, luck == 0 ? random.nextInt(9999) : luck == 1 ? shake() : random.nextInt(144));
        }
        call(luck == 0 ? "built" : luck == 1 ? "pair" : "judge",
                luck == 1 ? new long[] {s} : new long[] {random.nextInt(2), s});
        if (luck == 1) {
            call("night", s);
        }
    }

    private int shake() {
        return 1000 * random.nextInt(144) + 10 * random.nextInt(40) + random.nextInt(4);
    }

    private long[] wildArguments(String name) {
        long[] a = arguments(name);
        if (a.length > 0) {
            int i = random.nextInt(a.length);
            Class<?> type = METHODS.get(name).getParameterTypes()[i];
            if (type == long.class) {
                a[i] = random.nextLong();
            } else if (type == int.class) {
                a[i] = ODD[random.nextInt(ODD.length)];
            }
        }
        return a;
    }

    private int upTo(int what) {
        // Of the model, since looking at the object would be one of its 512 calls.
        int there = (int) model.call("look", what);
        return random.nextInt(Math.max(1, there) + (random.nextInt(20) == 0 ? 1 : 0));
    }

    private long[] arguments(String name) {
        int town = upTo(0);
        int letter = upTo(1);
        switch (name) {
            case "ground": return new long[] {random.nextInt(144), random.nextInt(3)};
            case "town": return new long[] {random.nextInt(144)};
            case "houses": return new long[] {town, random.nextInt(6), random.nextInt(10000)};
            case "built": return new long[] {town, random.nextInt(4)};
            case "of": return new long[] {town, random.nextInt(5)};
            case "tick": return new long[] {random.nextInt(30) == 0 ? 400 : 1 + random.nextInt(20)};
            case "letter": return letterArguments(town, letter);
            case "as": return new long[] {letter, random.nextInt(6)};
            case "told": return new long[] {letter, random.nextInt(9)};
            case "lose": return new long[] {letter, random.nextInt(2)};
            case "reread": return new long[] {letter, random.nextInt(16)};
            case "day": return new long[] {letter, random.nextInt(4)};
            case "counts": case "lets": case "root": case "tree": case "days": case "evening": case "beside":
                return new long[] {letter};
            case "feed": return new long[] {random.nextInt(), 1 + random.nextInt(4)};
            case "text": return new long[] {random.nextInt(100)};
            case "means": return new long[] {random.nextInt(16)};
            case "law": return new long[] {random.nextInt(8)};
            case "why": return new long[] {random.nextInt(24)};
            case "span": return new long[] {town};
            case "step": return new long[] {shake(), town};
            case "miss": return new long[] {shake(), random.nextBoolean() ? town : -1};
            case "two": case "split": return new long[] {shake(), shake()};
            case "pair": case "night": return new long[] {random.nextInt(4)};
            case "fits": case "weight": case "note":
                return new long[] {random.nextBoolean() ? model.call("best", random.nextInt(4)) : shake()};
            case "falls": return new long[] {shake(), town, random.nextInt(4)};
            case "odds": return new long[] {random.nextInt(4), random.nextInt(145) - 1};
            case "best": case "next": return new long[] {random.nextInt(4)};
            case "narrow": return new long[] {random.nextInt(4), random.nextInt(101)};
            case "judge": return new long[] {random.nextInt(4), random.nextInt(4)};
            case "without": return new long[] {random.nextInt(4), letter};
            case "noted": return new long[] {upTo(5), random.nextInt(4)};
            case "sheet": return new long[] {random.nextInt(4), new int[] {0, 8, 16, 64}[random.nextInt(4)],
                random.nextInt(15)};
            case "write": return new long[] {random.nextInt(4), random.nextInt(15), random.nextInt(200) - 50};
            case "copy": return new long[] {random.nextInt(4), random.nextInt(4), random.nextInt(4), random.nextInt(4),
                random.nextInt(5)};
            case "look": return new long[] {random.nextInt(8)};
            case "status": return new long[] {random.nextInt(8) - 1};
            default: return new long[0];
        }
    }

    private long[] letterArguments(int town, int letter) {
        int kind = random.nextInt(6);
        int from = kind == 3 || (kind == 2 && random.nextBoolean()) ? letter : -1;
        int late = random.nextInt(4) == 0 ? 10 * random.nextInt(30) : 0;
        int lean = kind == 4 ? random.nextInt(6) : 0;
        return new long[] {kind, 100 * town + random.nextInt(16), 10 * random.nextInt(6) + random.nextInt(5), from,
            late + lean};
    }

    private void call(String name, long... a) throws Exception {
        if (calls >= CALLS) {
            return;
        }
        // undo() and tear() at their full share would keep every run small.
        if ((name.equals("undo") || name.equals("tear")) && random.nextInt(3) != 0) {
            return;
        }
        Method method = METHODS.get(name);
        Object[] given = new Object[a.length];
        for (int i = 0; i < a.length; i++) {
            Class<?> type = method.getParameterTypes()[i];
            given[i] = type == long.class ? (Object) a[i] : type == int.class ? (Object) (int) a[i] : (Object) (a[i] != 0);
        }
        long got = ((Number) method.invoke(x, given)).longValue();
        long want = model.call(name, a);
        calls++;
        told.append(name).append(Arrays.toString(given)).append(" = ").append(got).append('\n');
        if (got != want) {
            wrong++;
            told.append("  due is ").append(want).append('\n');
        } else if (got > -1000000000) {
            good.merge(name, 1, Integer::sum);
        }
    }
}

import java.math.BigInteger;
import java.util.ArrayList;
import java.util.Arrays;
import java.util.Collections;
import java.util.HashMap;
import java.util.List;
import java.util.Map;
import java.util.TreeSet;
import java.util.regex.Matcher;
import java.util.regex.Pattern;

/**
 * The document written a second time, in its own words and as slow as it likes:
 * sets are sets, findings are thrown, nothing is reckoned ahead.
 */
final class Model {
    private static final class Finding extends RuntimeException {
        private static final long serialVersionUID = 1;
        final long what;

        Finding(long what) {
            super(null, null, false, false);
            this.what = what;
        }
    }

    private record Town(int cell, int[] houses) {
        Town copied() {
            return new Town(cell, houses.clone());
        }
    }

    private record Letter(int kind, int town, int word, int date, int reckoning, int known, int from, int lean,
            boolean lost) {
        Letter lost(boolean is) {
            return new Letter(kind, town, word, date, reckoning, known, from, lean, is);
        }

        Letter read(int anew) {
            return new Letter(kind, town, anew, date, reckoning, known, from, lean, lost);
        }
    }

    private record Rule(String sort, int about, int first, int last) {
    }

    private record Text(int from, List<Rule> rules) {
    }

    private record Note(int shake, long miss, int day) {
    }

    private static final class Kept {
        Map<Integer, Integer> ground = new HashMap<>();
        List<Town> towns = new ArrayList<>();
        List<Letter> letters = new ArrayList<>();
        List<Text> texts = new ArrayList<>();
        List<Note> notes = new ArrayList<>();
        int day = 0;

        Kept copied() {
            Kept k = new Kept();
            k.ground.putAll(ground);
            towns.forEach(t -> k.towns.add(t.copied()));
            k.letters.addAll(letters);
            k.texts.addAll(texts);
            k.notes.addAll(notes);
            k.day = day;
            return k;
        }
    }

    private Kept now = new Kept();
    private Kept kept = null;
    private String tape = "";
    private final Object[] sheets = new Object[4];
    private final Map<Long, Integer> found = new HashMap<>();

    long call(String name, long... a) {
        try {
            return act(name, a);
        } catch (Finding f) {
            found.merge(f.what, 1, Integer::sum);
            return f.what;
        }
    }

    private static void ask(boolean holds, long finding) {
        if (!holds) {
            throw new Finding(finding);
        }
    }

    private static void within(long n, long least, long most) {
        ask(n >= least && n <= most, Due.BEYOND);
    }

    private static long bits(Iterable<Integer> set) {
        long sum = 0;
        for (int i : set) {
            sum += 1L << i;
        }
        return sum;
    }

    private long act(String name, long[] a) {
        switch (name) {
            case "ground": case "town": case "houses": case "built": case "of": case "tick":
                return land(name, a);
            case "letter": case "as": case "told": case "lose": case "reread": case "counts": case "lets":
            case "root": case "tree": case "days": case "day": case "evening":
                return letters(name, a);
            case "feed": case "wipe": case "text": case "means": case "law": case "why":
                return texts(name, a);
            case "span": case "beside": case "silent": case "step": case "miss": case "two": case "split":
            case "pair": case "night": case "fits": case "falls":
                return shakes(name, a);
            case "weight": case "odds": case "best": case "narrow": case "judge": case "next": case "without":
                return grid(name, a);
            case "note": case "noted": case "news":
                return notes(name, a);
            case "sheet": case "write": case "copy":
                return sheets(name, a);
            default:
                return images(name, a);
        }
    }

    // ---- the land

    private long land(String name, long[] a) {
        switch (name) {
            case "ground": {
                within(a[0], 0, 143);
                within(a[1], 0, 2);
                Integer was = now.ground.put((int) a[0], (int) a[1]);
                return was == null ? 0 : was;
            }
            case "town":
                within(a[0], 0, 143);
                ask(now.towns.size() < 16, Due.FULL);
                now.towns.add(new Town((int) a[0], new int[6]));
                return now.towns.size() - 1;
            case "houses": {
                Town town = town(a[0]);
                within(a[1], 0, 5);
                within(a[2], 0, 9999);
                int was = town.houses[(int) a[1]];
                town.houses[(int) a[1]] = (int) a[2];
                return was;
            }
            case "built": {
                Town town = town(a[0]);
                long[] numbers = numbers(a[1]);
                ask(numbers.length == 3, Due.SIZE);
                Arrays.stream(numbers).forEach(n -> within(n, 0, 9999));
                int others = 0;
                for (int i = 0; i < 3; i++) {
                    others += town.houses[3 + i] == numbers[i] ? 0 : 1;
                    town.houses[3 + i] = (int) numbers[i];
                }
                return others;
            }
            case "of": {
                Town town = town(a[0]);
                within(a[1], 0, 4);
                int[] h = town.houses;
                if (a[1] == 0) {
                    return town.cell;
                } else if (a[1] == 3) {
                    return h[0] + h[1] + h[2];
                } else if (a[1] == 4) {
                    return h[3] + h[4] + h[5];
                }
                long n = 0;
                for (int i = 0; i < now.letters.size(); i++) {
                    n += now.letters.get(i).town == a[0] && (a[1] == 1 || counting(i)) ? 1 : 0;
                }
                return n;
            }
            default:
                within(a[0], 1, 400);
                ask(now.day + a[0] <= 9999, Due.FULL);
                now.day += a[0];
                return now.day;
        }
    }

    private Town town(long n) {
        within(n, 0, now.towns.size() - 1);
        return now.towns.get((int) n);
    }

    // ---- letters

    private long letters(String name, long[] a) {
        if (name.equals("letter")) {
            return newLetter(a[0], a[1], a[2], a[3], a[4]);
        }
        within(a[0], 0, now.letters.size() - 1);
        int n = (int) a[0];
        Letter letter = now.letters.get(n);
        switch (name) {
            case "as":
                within(a[1], 0, 5);
                ask(a[1] == 0 || a[1] == letter.kind || (a[1] == 2 && letter.kind == 3), Due.KIND);
                return n;
            case "told":
                return told(letter, a[1]);
            case "lose":
                now.letters.set(n, letter.lost(a[1] != 0));
                return letter.lost == (a[1] != 0) ? 0 : 1;
            case "reread":
                within(a[1], 0, 15);
                ask(!letter.lost, Due.STATE);
                now.letters.set(n, letter.read((int) a[1]));
                return letter.word;
            case "counts":
                return counting(n) ? 1 : 0;
            case "lets":
                return bits(letting(letter));
            case "root":
                return rootOf(n);
            case "tree": {
                List<Integer> same = new ArrayList<>();
                for (int i = 0; i < now.letters.size(); i++) {
                    if (rootOf(i) == rootOf(n)) {
                        same.add(i);
                    }
                }
                return bits(same);
            }
            case "days":
                return canMean(letter).size();
            case "day":
                ask(a[1] >= 0, Due.BEYOND);
                ask(a[1] < canMean(letter).size(), Due.NONE);
                return new ArrayList<>(canMean(letter)).get((int) a[1]);
            default: {
                List<Integer> same = new ArrayList<>();
                for (int i = 0; i < now.letters.size(); i++) {
                    if (counting(i) && !Collections.disjoint(canMean(now.letters.get(i)), canMean(letter))) {
                        same.add(i);
                    }
                }
                return bits(same);
            }
        }
    }

    private long newLetter(long kind, long about, long when, long from, long late) {
        within(kind, 0, 5);
        within(about, 0, 1515);
        within(about / 100, 0, now.towns.size() - 1);
        within(about % 100, 0, 15);
        within(when, 0, 9994);
        within(when % 10, 0, 4);
        within(late, 0, 995);
        within(late % 10, 0, kind == 4 ? 5 : 0);
        within(from, kind == 3 ? 0 : -1, kind == 2 || kind == 3 ? now.letters.size() - 1 : -1);
        ask(now.letters.size() < 30, Due.FULL);
        now.letters.add(new Letter((int) kind, (int) about / 100, (int) about % 100, (int) when / 10, (int) when % 10,
                now.day + (int) late / 10, (int) from, (int) late % 10, false));
        return now.letters.size() - 1;
    }

    private static long told(Letter l, long what) {
        within(what, 0, 8);
        ask(what != 7 || l.kind == 2 || l.kind == 3, Due.KIND);
        ask(what != 8 || l.kind == 4, Due.KIND);
        return new long[] {l.kind, l.town, l.word, l.date, l.reckoning, l.known, l.lost ? 1 : 0, l.from,
            l.lean}[(int) what];
    }

    private boolean counting(int n) {
        Letter l = now.letters.get(n);
        if (l.known > now.day || l.lost || l.kind == 5) {
            return false;
        }
        if (l.kind != 3) {
            return true;
        }
        if (counting(l.from)) {
            return false;
        }
        for (int i = 0; i < n; i++) {
            if (now.letters.get(i).kind == 3 && now.letters.get(i).from == l.from && counting(i)) {
                return false;
            }
        }
        return true;
    }

    private TreeSet<Integer> letting(Letter l) {
        TreeSet<Integer> steps = meaning(l.word);
        int least = steps.first();
        int greatest = steps.last();
        if (l.kind == 4) {
            for (int i = 1; i <= l.lean; i++) {
                steps.add(least - i);
            }
        }
        if (l.kind == 2 || l.kind == 3) {
            steps.add(least - 1);
            steps.add(greatest + 1);
        }
        steps.removeIf(s -> s < 0 || s > 11);
        return steps;
    }

    private int rootOf(int n) {
        return now.letters.get(n).from < 0 ? n : rootOf(now.letters.get(n).from);
    }

    private TreeSet<Integer> canMean(Letter l) {
        TreeSet<Integer> days = new TreeSet<>();
        for (int r = 0; r < 4; r++) {
            if (l.reckoning == r || l.reckoning == 4) {
                days.add(l.date + lawOf(r));
            }
        }
        return days;
    }

    // ---- texts

    private long texts(String name, long[] a) {
        switch (name) {
            case "feed": {
                within(a[1], 1, 4);
                ask(tape.length() + a[1] <= 120, Due.FULL);
                byte[] four = BigInteger.valueOf((1L << 32) + (a[0] & 0xFFFFFFFFL)).toByteArray();
                for (int i = 5 - (int) a[1]; i < 5; i++) {
                    tape += (char) (four[i] & 255);
                }
                return tape.length();
            }
            case "wipe": {
                int had = tape.length();
                tape = "";
                return had;
            }
            case "text": {
                within(a[0], 0, 9999);
                ask(now.texts.size() < 8, Due.FULL);
                List<Rule> rules = new ArrayList<>();
                int fault = fault(rules);
                if (fault >= 0) {
                    return -1 - fault;
                }
                now.texts.add(new Text((int) a[0], rules));
                tape = "";
                return now.texts.size() - 1;
            }
            case "means":
                within(a[0], 0, 15);
                return bits(meaning((int) a[0]));
            case "law":
                within(a[0], 0, 7);
                return lawOf((int) a[0]);
            default: {
                within(a[0], 0, 23);
                int[] rule = ruleOf((int) a[0]);
                ask(rule != null, Due.NONE);
                return 10 * rule[0] + rule[1];
            }
        }
    }

    /** Which TOKENS can stand behind those so far, as one pattern a place; # is a number within bounds. */
    private static final String[] SHAPES = {"word #0:15 is #0:11", "word #0:15 is #0:11 - #low:11",
        "reckon #0:3 more #0:99", "falls #1:20", "ground #0:2 more #0:9"};

    private int fault(List<Rule> rules) {
        List<String> tokens = new ArrayList<>();
        List<Integer> places = new ArrayList<>();
        Matcher m = Pattern.compile("[a-z]+|[0-9]+|[;-]|[^ ]", Pattern.DOTALL).matcher(tape);
        while (m.find()) {
            tokens.add(m.group());
            places.add(m.start());
        }
        places.add(tape.length());
        int at = 0;
        while (true) {
            if (rules.size() == 6) {
                return places.get(at);
            }
            int furthest = at;
            int length = -1;
            for (String shape : SHAPES) {
                String[] parts = shape.split(" ");
                int good = fitting(parts, tokens, at);
                furthest = Math.max(furthest, at + good);
                length = good == parts.length ? Math.max(length, good) : length;
            }
            // A rule can end where its shape does; a token more of a longer shape must then lead to its end.
            if (length < 0 || at + length < furthest) {
                return places.get(furthest);
            }
            rules.add(rule(tokens.subList(at, at + length)));
            at += length;
            if (at == tokens.size()) {
                return -1;
            }
            if (!tokens.get(at).equals(";")) {
                return places.get(at);
            }
            at++;
        }
    }

    private static int fitting(String[] parts, List<String> tokens, int at) {
        for (int i = 0; i < parts.length; i++) {
            if (at + i >= tokens.size()) {
                return i;
            }
            String token = tokens.get(at + i);
            if (parts[i].startsWith("#")) {
                if (!token.matches("[0-9]+")) {
                    return i;
                }
                String[] bounds = parts[i].substring(1).split(":");
                BigInteger least = new BigInteger(bounds[0].equals("low") ? tokens.get(at + i - 2) : bounds[0]);
                BigInteger n = new BigInteger(token);
                if (n.compareTo(least) < 0 || n.compareTo(new BigInteger(bounds[1])) > 0) {
                    return i;
                }
            } else if (!parts[i].equals(token)) {
                return i;
            }
        }
        return parts.length;
    }

    private static Rule rule(List<String> t) {
        if (t.get(0).equals("falls")) {
            return new Rule("falls", 0, Integer.parseInt(t.get(1)), 0);
        }
        return new Rule(t.get(0), Integer.parseInt(t.get(1)), Integer.parseInt(t.get(3)),
                Integer.parseInt(t.get(t.size() - 1)));
    }

    private int[] ruleOf(int what) {
        String sort = what < 4 ? "reckon" : what == 4 ? "falls" : what < 8 ? "ground" : "word";
        int about = what < 4 ? what : what == 4 ? 0 : what < 8 ? what - 5 : what - 8;
        for (int t = now.texts.size() - 1; t >= 0; t--) {
            for (int r = 0; now.texts.get(t).from <= now.day && r < now.texts.get(t).rules.size(); r++) {
                Rule rule = now.texts.get(t).rules.get(r);
                if (rule.sort.equals(sort) && rule.about == about) {
                    return new int[] {t, r};
                }
            }
        }
        return null;
    }

    private int lawOf(int what) {
        int[] rule = ruleOf(what);
        if (rule == null) {
            return what < 4 ? 0 : what == 4 ? 4 : what - 5;
        }
        return now.texts.get(rule[0]).rules.get(rule[1]).first;
    }

    private TreeSet<Integer> meaning(int word) {
        int[] at = ruleOf(8 + word);
        Rule rule = at == null ? new Rule("word", word, 0, 11) : now.texts.get(at[0]).rules.get(at[1]);
        TreeSet<Integer> steps = new TreeSet<>();
        for (int i = rule.first; i <= rule.last; i++) {
            steps.add(i);
        }
        return steps;
    }

    // ---- towns, shakes

    private static int shake(long n) {
        within(n, 0, 143393);
        within(n % 10, 0, 3);
        within(n / 10 % 100, 0, 39);
        return (int) n;
    }

    private long shakes(String name, long[] a) {
        switch (name) {
            case "span":
                town(a[0]);
                return bits(spanOf((int) a[0]));
            case "beside":
                within(a[0], 0, now.letters.size() - 1);
                return ifLost((int) a[0], () -> bits(spanOf(now.letters.get((int) a[0]).town)));
            case "silent": {
                TreeSet<Integer> quiet = new TreeSet<>();
                for (int t = 0; t < now.towns.size(); t++) {
                    quiet.add(t);
                }
                for (int i = 0; i < now.letters.size(); i++) {
                    if (counting(i)) {
                        quiet.remove(now.letters.get(i).town);
                    }
                }
                return bits(quiet);
            }
            case "step":
                shake(a[0]);
                town(a[1]);
                return stepOf((int) a[0], (int) a[1]);
            case "miss":
                shake(a[0]);
                within(a[1], -1, now.towns.size() - 1);
                return a[1] == -1 ? missOf((int) a[0], spans()) : missIn((int) a[0], (int) a[1], spans());
            case "two":
                return missOfTwo(shake(a[0]), shake(a[1]), spans());
            case "split": {
                shake(a[0]);
                shake(a[1]);
                List<Integer> nearer = new ArrayList<>();
                for (int t = 0; t < now.towns.size(); t++) {
                    if (missIn((int) a[1], t, spans()) < missIn((int) a[0], t, spans())) {
                        nearer.add(t);
                    }
                }
                return bits(nearer);
            }
            case "pair": case "night":
                return pairs(name, a[0]);
            case "fits": {
                shake(a[0]);
                List<Integer> fitting = new ArrayList<>();
                for (int i = 0; i < now.letters.size(); i++) {
                    Letter l = now.letters.get(i);
                    TreeSet<Integer> only = new TreeSet<>(List.of(stepOf((int) a[0], l.town)));
                    if (counting(i) && meaning(l.word).equals(only)) {
                        fitting.add(i);
                    }
                }
                return bits(fitting);
            }
            default:
                shake(a[0]);
                town(a[1]);
                within(a[2], 0, 3);
                return falling((int) a[0], (int) a[1], (int) a[2]);
        }
    }

    private long ifLost(int letter, java.util.function.LongSupplier what) {
        Letter l = now.letters.get(letter);
        now.letters.set(letter, l.lost(true));
        long answer = what.getAsLong();
        now.letters.set(letter, l);
        return answer;
    }

    private TreeSet<Integer> spanOf(int town) {
        TreeSet<Integer> steps = new TreeSet<>(List.of(0, 1, 2, 3, 4, 5, 6, 7, 8, 9, 10, 11));
        for (int i = 0; i < now.letters.size(); i++) {
            if (counting(i) && now.letters.get(i).town == town) {
                steps.retainAll(letting(now.letters.get(i)));
            }
        }
        return steps;
    }

    private List<TreeSet<Integer>> spans() {
        List<TreeSet<Integer>> spans = new ArrayList<>();
        for (int t = 0; t < now.towns.size(); t++) {
            spans.add(spanOf(t));
        }
        return spans;
    }

    private int stepOf(int shake, int town) {
        int cell = now.towns.get(town).cell;
        int dx = shake / 1000 % 12 - cell % 12;
        int dy = shake / 1000 / 12 - cell / 12;
        int ground = now.ground.getOrDefault(cell, 0);
        int step = shake % 1000 / 10 + lawOf(5 + ground) - (dx * dx + dy * dy + 9 * (shake % 10)) / lawOf(4);
        return step < 0 ? 0 : step > 11 ? 11 : step;
    }

    private int missIn(int shake, int town, List<TreeSet<Integer>> spans) {
        int step = stepOf(shake, town);
        return spans.get(town).stream().mapToInt(s -> Math.abs(s - step)).min().orElse(12);
    }

    private long missOf(int shake, List<TreeSet<Integer>> spans) {
        return missOfTwo(shake, shake, spans);
    }

    private long missOfTwo(int shake, int other, List<TreeSet<Integer>> spans) {
        long all = 0;
        for (int t = 0; t < spans.size(); t++) {
            all += Math.min(missIn(shake, t, spans), missIn(other, t, spans));
        }
        return all;
    }

    private long pairs(String name, long s) {
        long[] numbers = numbers(s);
        ask(numbers.length >= 2 && numbers.length <= 12, Due.SIZE);
        Arrays.stream(numbers).forEach(Model::shake);
        List<TreeSet<Integer>> spans = spans();
        long least = Long.MAX_VALUE;
        long place = 0;
        long alone = Long.MAX_VALUE;
        for (int i = 0; i < numbers.length; i++) {
            alone = Math.min(alone, missOf((int) numbers[i], spans));
            for (int j = i + 1; j < numbers.length; j++) {
                long miss = missOfTwo((int) numbers[i], (int) numbers[j], spans);
                if (miss < least) {
                    least = miss;
                    place = 100 * i + j;
                }
            }
        }
        return name.equals("pair") ? place : alone - least;
    }

    private long falling(int shake, int town, int of) {
        if (of == 3) {
            return falling(shake, town, 0) + falling(shake, town, 1) + falling(shake, town, 2);
        }
        int above = stepOf(shake, town) - new int[] {5, 3, 7}[of];
        int hundredth = new int[] {10, 11, 5}[of];
        return above <= 0 ? 0 : now.towns.get(town).houses[3 + of] * above * hundredth / 100;
    }

    // ---- the grid

    private long grid(String name, long[] a) {
        if (name.equals("weight")) {
            return weighed(missOf(shake(a[0]), spans()));
        }
        within(a[0], 0, 3);
        int depth = (int) a[0];
        switch (name) {
            case "odds": {
                within(a[1], -1, 143);
                long[] weights = weights(depth);
                return a[1] == -1 ? Arrays.stream(weights).sum() : weights[(int) a[1]];
            }
            case "best": {
                long[] misses = misses(depth);
                long least = Arrays.stream(misses).min().getAsLong();
                for (int i = 0; true; i++) {
                    if (misses[i] == least) {
                        return 1000 * (i / 40) + 10 * (i % 40) + depth;
                    }
                }
            }
            case "narrow": {
                within(a[1], 0, 100);
                long[] weights = weights(depth);
                long all = Arrays.stream(weights).sum();
                ask(all > 0, Due.NONE);
                Arrays.sort(weights);
                long held = 0;
                int cells = 0;
                while (held * 100 < a[1] * all) {
                    cells++;
                    held += weights[144 - cells];
                }
                return cells;
            }
            case "judge": {
                long[] numbers = numbers(a[1]);
                Arrays.stream(numbers).forEach(n -> within(n, 0, 143));
                long[] weights = weights(depth);
                long all = Arrays.stream(weights).sum();
                ask(all > 0, Due.NONE);
                return Arrays.stream(numbers).distinct().map(n -> weights[(int) n]).sum() * 100 / all;
            }
            case "next":
                return asking(depth);
            default:
                within(a[1], 0, now.letters.size() - 1);
                return ifLost((int) a[1], () -> Arrays.stream(misses(depth)).min().getAsLong());
        }
    }

    private static long weighed(long miss) {
        return miss > 10 ? 0 : BigInteger.valueOf(4).pow((int) (10 - miss)).longValue();
    }

    private long[] misses(int depth) {
        List<TreeSet<Integer>> spans = spans();
        // One look at the texts, not one a SHAKE: the only thing that is reckoned ahead.
        int falls = lawOf(4);
        int[] more = new int[spans.size()];
        for (int t = 0; t < more.length; t++) {
            more[t] = lawOf(5 + now.ground.getOrDefault(now.towns.get(t).cell, 0));
        }
        long[] misses = new long[144 * 40];
        for (int i = 0; i < misses.length; i++) {
            for (int t = 0; t < more.length; t++) {
                int dx = i / 40 % 12 - now.towns.get(t).cell % 12;
                int dy = i / 40 / 12 - now.towns.get(t).cell / 12;
                int step = Math.max(0, Math.min(11, i % 40 + more[t] - (dx * dx + dy * dy + 9 * depth) / falls));
                int miss = 12;
                for (int s : spans.get(t)) {
                    miss = Math.min(miss, Math.abs(s - step));
                }
                misses[i] += miss;
            }
        }
        return misses;
    }

    private long[] weights(int depth) {
        long[] misses = misses(depth);
        long[] weights = new long[144];
        for (int i = 0; i < misses.length; i++) {
            weights[i / 40] += weighed(misses[i]);
        }
        return weights;
    }

    private long asking(int depth) {
        long[] misses = misses(depth);
        long least = Arrays.stream(misses).min().getAsLong();
        long asked = Due.NONE;
        int fewest = Integer.MAX_VALUE;
        for (int t = 0; t < now.towns.size(); t++) {
            if (spanOf(t).size() > 1) {
                Map<Integer, Integer> bySteps = new HashMap<>();
                for (int i = 0; i < misses.length; i++) {
                    if (misses[i] == least) {
                        bySteps.merge(stepOf(1000 * (i / 40) + 10 * (i % 40) + depth, t), 1, Integer::sum);
                    }
                }
                int most = Collections.max(bySteps.values());
                if (most < fewest) {
                    fewest = most;
                    asked = t;
                }
            }
        }
        ask(asked >= 0, Due.NONE);
        return asked;
    }

    // ---- notes

    private long notes(String name, long[] a) {
        if (name.equals("note")) {
            shake(a[0]);
            ask(now.notes.size() < 20, Due.FULL);
            now.notes.add(new Note((int) a[0], missOf((int) a[0], spans()), now.day));
            return now.notes.size() - 1;
        }
        if (name.equals("news")) {
            List<Integer> others = new ArrayList<>();
            for (int i = 0; i < now.notes.size(); i++) {
                if (missOf(now.notes.get(i).shake, spans()) != now.notes.get(i).miss) {
                    others.add(i);
                }
            }
            return bits(others);
        }
        within(a[0], 0, now.notes.size() - 1);
        within(a[1], 0, 3);
        Note note = now.notes.get((int) a[0]);
        return new long[] {note.shake, note.miss, note.day, missOf(note.shake, spans())}[(int) a[1]];
    }

    // ---- sheets: byte[], short[] or long[], as Java has them

    private long[] numbers(long s) {
        within(s, 0, 3);
        Object row = sheets[(int) s];
        ask(row != null, Due.MISSING);
        long[] numbers = new long[java.lang.reflect.Array.getLength(row)];
        for (int i = 0; i < numbers.length; i++) {
            numbers[i] = java.lang.reflect.Array.getLong(row, i);
        }
        return numbers;
    }

    private long sheets(String name, long[] a) {
        if (name.equals("sheet")) {
            within(a[0], 0, 3);
            ask(List.of(0L, 8L, 16L, 64L).contains(a[1]), Due.BEYOND);
            ask(a[2] >= 0, Due.SIZE);
            within(a[2], 0, 40);
            int n = (int) a[2];
            sheets[(int) a[0]] = a[1] == 0 ? null : a[1] == 8 ? new byte[n] : a[1] == 16 ? new short[n] : new long[n];
            return a[1] == 0 ? 0 : n;
        }
        if (name.equals("write")) {
            long[] was = numbers(a[0]);
            within(a[1], 0, was.length - 1);
            Object row = sheets[(int) a[0]];
            if (row instanceof byte[] b) {
                b[(int) a[1]] = (byte) a[2];
            } else if (row instanceof short[] h) {
                h[(int) a[1]] = (short) a[2];
            } else if (row instanceof long[] l) {
                l[(int) a[1]] = a[2];
            }
            return was[(int) a[1]];
        }
        within(a[0], 0, 3);
        within(a[2], 0, 3);
        long[] s = numbers(a[0]);
        long[] t = numbers(a[2]);
        Object from = sheets[(int) a[0]];
        Object to = sheets[(int) a[2]];
        ask(from.getClass() == to.getClass(), Due.KIND);
        within(a[4], 0, 40);
        within(a[1], 0, s.length - a[4]);
        within(a[3], 0, t.length - a[4]);
        System.arraycopy(from, (int) a[1], to, (int) a[3], (int) a[4]);
        return a[4];
    }

    // ---- images

    private long images(String name, long[] a) {
        switch (name) {
            case "image":
                kept = now.copied();
                return 1;
            case "undo":
                ask(kept != null, Due.NONE);
                now = kept.copied();
                return now.day;
            case "tear": {
                int was = kept == null ? 0 : 1;
                kept = null;
                return was;
            }
            case "look": {
                within(a[0], 0, 7);
                long count = 0;
                for (int i = 0; i < now.letters.size(); i++) {
                    count += (a[0] == 2 ? counting(i) : now.letters.get(i).lost) ? 1 : 0;
                }
                return new long[] {now.towns.size(), now.letters.size(), count, count, now.texts.size(),
                    now.notes.size(), now.day, tape.length()}[(int) a[0]];
            }
            default:
                within(a[0], -1, 6);
                return a[0] == -1 ? found.values().stream().mapToInt(Integer::intValue).sum()
                        : found.getOrDefault(Due.BEYOND - a[0], 0);
        }
    }
}

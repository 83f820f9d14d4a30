import java.util.Arrays;

/**
 * A shake told by letters: what the letters let, where the shake can have been
 * and how strong, and what it would do today. The document's promises are the
 * public methods, in its order.
 */
public final class ShakeLetters {
    private static final int BEYOND = -1000000001;
    private static final int FULL = -1000000002;
    private static final int KIND = -1000000003;
    private static final int NONE = -1000000004;
    private static final int STATE = -1000000005;
    private static final int MISSING = -1000000006;
    private static final int SIZE = -1000000007;
    private static final int FINDINGS = 7;

    private static final int SIDE = 12;
    private static final int CELLS = SIDE * SIDE;
    private static final int GROUNDS = 3;
    private static final int TOWNS = 16;
    private static final int SORTS = 3;
    private static final int MOST_HOUSES = 9999;
    private static final int LAST_DAY = 9999;
    private static final int MOST_TICK = 400;

    private static final int LETTERS = 30;
    private static final int NO_LETTER = -1;
    private static final int KINDS = 6;
    private static final int HEARD = 2;
    private static final int COPIED = 3;
    private static final int BENT = 4;
    private static final int TORN = 5;
    /** The kind above each kind. */
    private static final int[] UNDER = {-1, 0, 0, 2, 0, 0};
    private static final int WORDS = 16;
    private static final int LAST_DATE = 999;
    private static final int RECKONINGS = 4;
    private static final int NOT_TOLD = RECKONINGS;
    private static final int MOST_LATE = 99;
    private static final int MOST_LEAN = 5;

    private static final int TEXTS = 8;
    private static final int RULES = 6;
    private static final int TAPE_BYTES = 120;
    /** What a RULE is about, as why() counts it: RECKONINGS, FALLS, GROUNDS, WORDS. */
    private static final int KEY_FALLS = 4;
    private static final int KEY_GROUND = 5;
    private static final int KEY_WORD = 8;
    private static final int KEYS = KEY_WORD + WORDS;
    /** What law() tells where no RULE does. */
    private static final int[] LAW_WITHOUT = {0, 0, 0, 0, 4, 0, 1, 2};

    private static final int STEPS = 12;
    private static final int LAST_STEP = STEPS - 1;
    private static final int ALL_STEPS = (1 << STEPS) - 1;
    private static final int MISS_OF_EMPTY = 12;
    private static final int STRENGTHS = 40;
    private static final int DEPTHS = 4;
    private static final int MOST_MISS = 10;
    private static final int PAIR_PLACES = 12;
    /** Above every MISS, and above how many SHAKES there are. */
    private static final int ABOVE_ALL = 1000000;

    private static final int NOTES = 20;
    private static final int SHEETS = 4;
    private static final int SHEET_NUMBERS = 40;

    private final World now;
    private final World kept;
    private boolean isKept;
    private final Tape tape;
    private final Sheets sheets;
    private final Survey survey;
    private final int[] found;

    public ShakeLetters() {
        now = new World();
        kept = new World();
        isKept = false;
        tape = new Tape();
        sheets = new Sheets();
        survey = new Survey();
        found = new int[FINDINGS];
    }

    // ---- the land

    public int ground(int cell, int v) {
        if (!isBelow(cell, CELLS) || !isBelow(v, GROUNDS)) {
            return finding(BEYOND);
        }
        int was = now.land.grounds[cell];
        now.land.grounds[cell] = v;
        return was;
    }

    public int town(int cell) {
        if (!isBelow(cell, CELLS)) {
            return finding(BEYOND);
        }
        if (now.land.towns >= TOWNS) {
            return finding(FULL);
        }
        return now.land.addTown(cell);
    }

    public int houses(int town, int of, int n) {
        if (!isTown(town) || !isBelow(of, 2 * SORTS) || !isBelow(n, MOST_HOUSES + 1)) {
            return finding(BEYOND);
        }
        return now.land.setHouses(town, of, n);
    }

    public int built(int town, int s) {
        if (!isTown(town) || !isBelow(s, SHEETS)) {
            return finding(BEYOND);
        }
        if (sheets.isMissing(s)) {
            return finding(MISSING);
        }
        if (sheets.sizes[s] != SORTS) {
            return finding(SIZE);
        }
        if (!sheets.allBelow(s, MOST_HOUSES + 1)) {
            return finding(BEYOND);
        }
        int others = 0;
        for (int sort = 0; sort < SORTS; sort++) {
            int n = (int) sheets.at(s, sort);
            if (now.land.setHouses(town, SORTS + sort, n) != n) {
                others++;
            }
        }
        return others;
    }

    public int of(int town, int what) {
        if (!isTown(town)) {
            return finding(BEYOND);
        }
        switch (what) {
            case 0:
                return now.land.cells[town];
            case 1:
                return now.letters.countOf(town, now.letters.everyOne());
            case 2:
                return now.letters.countOf(town, now.countingSet(NO_LETTER));
            case 3:
                return now.land.allHouses(town, 0);
            case 4:
                return now.land.allHouses(town, SORTS);
            default:
                return finding(BEYOND);
        }
    }

    public int tick(int n) {
        if (n < 1 || n > MOST_TICK) {
            return finding(BEYOND);
        }
        if (now.land.day + n > LAST_DAY) {
            return finding(FULL);
        }
        now.land.day += n;
        return now.land.day;
    }

    // ---- letters

    public int letter(int kind, int about, int when, int from, int late) {
        if (!isBelow(kind, KINDS) || !isAbout(about) || !isWhen(when)
                || !isFrom(kind, from) || !isLate(kind, late)) {
            return finding(BEYOND);
        }
        if (now.letters.count >= LETTERS) {
            return finding(FULL);
        }
        return now.letters.addLetter(kind, about, when, from, late, now.land.day);
    }

    public int as(int letter, int kind) {
        if (!isLetter(letter) || !isBelow(kind, KINDS)) {
            return finding(BEYOND);
        }
        if (!now.letters.isOfKind(letter, kind)) {
            return finding(KIND);
        }
        return letter;
    }

    public int told(int letter, int what) {
        if (!isLetter(letter) || !isBelow(what, 9)) {
            return finding(BEYOND);
        }
        if (what == 7 && !now.letters.isOfKind(letter, HEARD)) {
            return finding(KIND);
        }
        if (what == 8 && !now.letters.isOfKind(letter, BENT)) {
            return finding(KIND);
        }
        return now.letters.fieldOf(letter, what);
    }

    public int lose(int letter, boolean is) {
        if (!isLetter(letter)) {
            return finding(BEYOND);
        }
        if (now.letters.isLost(letter) == is) {
            return 0;
        }
        now.letters.lostSet ^= 1 << letter;
        return 1;
    }

    public int reread(int letter, int w) {
        if (!isLetter(letter) || !isBelow(w, WORDS)) {
            return finding(BEYOND);
        }
        if (now.letters.isLost(letter)) {
            return finding(STATE);
        }
        int was = now.letters.words[letter];
        now.letters.words[letter] = w;
        return was;
    }

    public int counts(int letter) {
        if (!isLetter(letter)) {
            return finding(BEYOND);
        }
        return (now.countingSet(NO_LETTER) >> letter) & 1;
    }

    public int lets(int letter) {
        if (!isLetter(letter)) {
            return finding(BEYOND);
        }
        return now.letSet(letter);
    }

    public int root(int letter) {
        if (!isLetter(letter)) {
            return finding(BEYOND);
        }
        return now.letters.rootOf(letter);
    }

    public int tree(int letter) {
        if (!isLetter(letter)) {
            return finding(BEYOND);
        }
        return now.letters.treeOf(letter);
    }

    public int days(int letter) {
        if (!isLetter(letter)) {
            return finding(BEYOND);
        }
        return now.fillDays(letter);
    }

    public int day(int letter, int i) {
        if (!isLetter(letter) || i < 0) {
            return finding(BEYOND);
        }
        int unlike = now.fillDays(letter);
        if (i >= unlike) {
            return finding(NONE);
        }
        return now.meantDays[i];
    }

    public int evening(int letter) {
        if (!isLetter(letter)) {
            return finding(BEYOND);
        }
        return now.sameDaySet(letter);
    }

    // ---- texts

    public int feed(int bytes, int n) {
        if (n < 1 || n > 4) {
            return finding(BEYOND);
        }
        if (tape.length + n > TAPE_BYTES) {
            return finding(FULL);
        }
        tape.append(bytes, n);
        return tape.length;
    }

    public int wipe() {
        int had = tape.length;
        tape.length = 0;
        return had;
    }

    public int text(int from) {
        if (!isBelow(from, LAST_DAY + 1)) {
            return finding(BEYOND);
        }
        if (now.texts.count >= TEXTS) {
            return finding(FULL);
        }
        int fault = tape.readText();
        if (fault >= 0) {
            return -1 - fault;
        }
        tape.length = 0;
        return now.texts.addText(from, tape);
    }

    public int means(int word) {
        if (!isBelow(word, WORDS)) {
            return finding(BEYOND);
        }
        return now.meaningSet(word);
    }

    public int law(int what) {
        if (!isBelow(what, KEY_WORD)) {
            return finding(BEYOND);
        }
        return now.lawOf(what);
    }

    public int why(int what) {
        if (!isBelow(what, KEYS)) {
            return finding(BEYOND);
        }
        int rule = now.texts.ruleFor(what, now.land.day);
        if (rule < 0) {
            return finding(NONE);
        }
        return 10 * (rule / RULES) + rule % RULES;
    }

    // ---- towns, shakes

    public int span(int town) {
        if (!isTown(town)) {
            return finding(BEYOND);
        }
        survey.take(now, NO_LETTER);
        return survey.spans[town];
    }

    public int beside(int letter) {
        if (!isLetter(letter)) {
            return finding(BEYOND);
        }
        survey.take(now, letter);
        return survey.spans[now.letters.abouts[letter]];
    }

    public int silent() {
        int counting = now.countingSet(NO_LETTER);
        int quiet = 0;
        for (int town = 0; town < now.land.towns; town++) {
            if (now.letters.countOf(town, counting) == 0) {
                quiet |= 1 << town;
            }
        }
        return quiet;
    }

    public int step(int shake, int town) {
        if (!isShake(shake) || !isTown(town)) {
            return finding(BEYOND);
        }
        survey.take(now, NO_LETTER);
        return survey.stepOf(shake, town);
    }

    public int miss(int shake, int town) {
        if (!isShake(shake) || (town != -1 && !isTown(town))) {
            return finding(BEYOND);
        }
        survey.take(now, NO_LETTER);
        return town == -1 ? survey.missOf(shake) : survey.missIn(shake, town);
    }

    public int two(int shake, int other) {
        if (!isShake(shake) || !isShake(other)) {
            return finding(BEYOND);
        }
        survey.take(now, NO_LETTER);
        survey.layMisses(0, shake);
        survey.layMisses(1, other);
        return survey.missOfTwo(0, 1);
    }

    public int split(int shake, int other) {
        if (!isShake(shake) || !isShake(other)) {
            return finding(BEYOND);
        }
        survey.take(now, NO_LETTER);
        int nearer = 0;
        for (int town = 0; town < now.land.towns; town++) {
            if (survey.missIn(other, town) < survey.missIn(shake, town)) {
                nearer |= 1 << town;
            }
        }
        return nearer;
    }

    public int pair(int s) {
        int fault = faultOfShakes(s);
        if (fault != 0) {
            return finding(fault);
        }
        layShakes(s);
        return survey.bestPair(sheets.sizes[s]);
    }

    public int night(int s) {
        int fault = faultOfShakes(s);
        if (fault != 0) {
            return finding(fault);
        }
        layShakes(s);
        int best = survey.bestPair(sheets.sizes[s]);
        int alone = survey.leastAlone(sheets.sizes[s]);
        return alone - survey.missOfTwo(best / 100, best % 100);
    }

    public int fits(int shake) {
        if (!isShake(shake)) {
            return finding(BEYOND);
        }
        survey.take(now, NO_LETTER);
        int counting = now.countingSet(NO_LETTER);
        int fitting = 0;
        for (int letter = 0; letter < now.letters.count; letter++) {
            int only = 1 << survey.stepOf(shake, now.letters.abouts[letter]);
            if (((counting >> letter) & 1) == 1 && now.meaningSet(now.letters.words[letter]) == only) {
                fitting |= 1 << letter;
            }
        }
        return fitting;
    }

    public int falls(int shake, int town, int of) {
        if (!isShake(shake) || !isTown(town) || !isBelow(of, SORTS + 1)) {
            return finding(BEYOND);
        }
        survey.take(now, NO_LETTER);
        int step = survey.stepOf(shake, town);
        if (of < SORTS) {
            return now.land.fallen(town, of, step);
        }
        int fallen = 0;
        for (int sort = 0; sort < SORTS; sort++) {
            fallen += now.land.fallen(town, sort, step);
        }
        return fallen;
    }

    // ---- the grid

    public int weight(int shake) {
        if (!isShake(shake)) {
            return finding(BEYOND);
        }
        survey.take(now, NO_LETTER);
        return weightOfMiss(survey.missOf(shake));
    }

    public long odds(int depth, int cell) {
        if (!isBelow(depth, DEPTHS) || (cell != -1 && !isBelow(cell, CELLS))) {
            return finding(BEYOND);
        }
        survey.take(now, NO_LETTER);
        return cell == -1 ? survey.weighGrid(depth) : survey.weighCell(cell, depth);
    }

    public int best(int depth) {
        if (!isBelow(depth, DEPTHS)) {
            return finding(BEYOND);
        }
        survey.take(now, NO_LETTER);
        return survey.bestShake(depth);
    }

    public int narrow(int depth, int share) {
        if (!isBelow(depth, DEPTHS) || !isBelow(share, 101)) {
            return finding(BEYOND);
        }
        survey.take(now, NO_LETTER);
        long all = survey.weighGrid(depth);
        if (all == 0) {
            return finding(NONE);
        }
        long held = 0;
        for (int cells = 0; cells < CELLS; cells++) {
            if (held * 100 >= all * share) {
                return cells;
            }
            held += survey.takeWeight(survey.heaviestCell());
        }
        return CELLS;
    }

    public int judge(int depth, int s) {
        if (!isBelow(depth, DEPTHS) || !isBelow(s, SHEETS)) {
            return finding(BEYOND);
        }
        if (sheets.isMissing(s)) {
            return finding(MISSING);
        }
        if (!sheets.allBelow(s, CELLS)) {
            return finding(BEYOND);
        }
        survey.take(now, NO_LETTER);
        long all = survey.weighGrid(depth);
        if (all == 0) {
            return finding(NONE);
        }
        long held = 0;
        for (int i = 0; i < sheets.sizes[s]; i++) {
            held += survey.takeWeight((int) sheets.at(s, i));
        }
        return (int) (held * 100 / all);
    }

    public int next(int depth) {
        if (!isBelow(depth, DEPTHS)) {
            return finding(BEYOND);
        }
        survey.take(now, NO_LETTER);
        int town = survey.townToAsk(depth);
        return town < 0 ? finding(NONE) : town;
    }

    public int without(int depth, int letter) {
        if (!isBelow(depth, DEPTHS) || !isLetter(letter)) {
            return finding(BEYOND);
        }
        survey.take(now, letter);
        return survey.missOf(survey.bestShake(depth));
    }

    // ---- notes

    public int note(int shake) {
        if (!isShake(shake)) {
            return finding(BEYOND);
        }
        if (now.notes.count >= NOTES) {
            return finding(FULL);
        }
        survey.take(now, NO_LETTER);
        return now.notes.addNote(shake, survey.missOf(shake), now.land.day);
    }

    public int noted(int note, int what) {
        if (!isBelow(note, now.notes.count)) {
            return finding(BEYOND);
        }
        switch (what) {
            case 0:
                return now.notes.shakes[note];
            case 1:
                return now.notes.misses[note];
            case 2:
                return now.notes.openDays[note];
            case 3:
                survey.take(now, NO_LETTER);
                return survey.missOf(now.notes.shakes[note]);
            default:
                return finding(BEYOND);
        }
    }

    public int news() {
        survey.take(now, NO_LETTER);
        int changed = 0;
        for (int note = 0; note < now.notes.count; note++) {
            if (survey.missOf(now.notes.shakes[note]) != now.notes.misses[note]) {
                changed |= 1 << note;
            }
        }
        return changed;
    }

    // ---- sheets

    public int sheet(int s, int bits, int n) {
        if (!isBelow(s, SHEETS) || (bits != 0 && bits != 8 && bits != 16 && bits != 64)) {
            return finding(BEYOND);
        }
        if (n < 0) {
            return finding(SIZE);
        }
        if (n > SHEET_NUMBERS) {
            return finding(BEYOND);
        }
        return sheets.layAnew(s, bits, n);
    }

    public long write(int s, int i, long v) {
        if (!isBelow(s, SHEETS)) {
            return finding(BEYOND);
        }
        if (sheets.isMissing(s)) {
            return finding(MISSING);
        }
        if (!isBelow(i, sheets.sizes[s])) {
            return finding(BEYOND);
        }
        return sheets.put(s, i, v);
    }

    public int copy(int s, int from, int t, int to, int n) {
        if (!isBelow(s, SHEETS) || !isBelow(t, SHEETS)) {
            return finding(BEYOND);
        }
        if (sheets.isMissing(s) || sheets.isMissing(t)) {
            return finding(MISSING);
        }
        if (sheets.widths[s] != sheets.widths[t]) {
            return finding(KIND);
        }
        if (!sheets.hasRange(s, from, n) || !sheets.hasRange(t, to, n)) {
            return finding(BEYOND);
        }
        sheets.move(s, from, t, to, n);
        return n;
    }

    // ---- images

    public int image() {
        kept.become(now);
        isKept = true;
        return 1;
    }

    public int undo() {
        if (!isKept) {
            return finding(NONE);
        }
        now.become(kept);
        return now.land.day;
    }

    public int tear() {
        int was = isKept ? 1 : 0;
        isKept = false;
        return was;
    }

    public int look(int what) {
        switch (what) {
            case 0:
                return now.land.towns;
            case 1:
                return now.letters.count;
            case 2:
                return Integer.bitCount(now.countingSet(NO_LETTER));
            case 3:
                return Integer.bitCount(now.letters.lostSet);
            case 4:
                return now.texts.count;
            case 5:
                return now.notes.count;
            case 6:
                return now.land.day;
            case 7:
                return tape.length;
            default:
                return finding(BEYOND);
        }
    }

    public int status(int which) {
        if (which == -1) {
            int all = 0;
            for (int i = 0; i < FINDINGS; i++) {
                all += found[i];
            }
            return all;
        }
        return isBelow(which, FINDINGS) ? found[which] : finding(BEYOND);
    }

    // ---- what the acts ask of their arguments

    private int finding(int what) {
        int place = BEYOND - what;
        if (isBelow(place, FINDINGS)) {
            found[place]++;
        }
        return what;
    }

    private static boolean isBelow(int n, int bound) {
        return n >= 0 && n < bound;
    }

    private boolean isTown(int town) {
        return isBelow(town, now.land.towns);
    }

    private boolean isLetter(int letter) {
        return isBelow(letter, now.letters.count);
    }

    private boolean isAbout(int about) {
        return about >= 0 && isTown(about / 100) && about % 100 < WORDS;
    }

    private static boolean isWhen(int when) {
        return when >= 0 && when / 10 <= LAST_DATE && when % 10 <= NOT_TOLD;
    }

    private boolean isFrom(int kind, int from) {
        if (kind == COPIED) {
            return isLetter(from);
        }
        return from == NO_LETTER || (kind == HEARD && isLetter(from));
    }

    private static boolean isLate(int kind, int late) {
        return late >= 0 && late / 10 <= MOST_LATE && late % 10 <= (kind == BENT ? MOST_LEAN : 0);
    }

    private static boolean isShake(long shake) {
        return shake >= 0 && shake / 1000 < CELLS && shake / 10 % 100 < STRENGTHS && shake % 10 < DEPTHS;
    }

    /** The finding by which a sheet can't be read as SHAKES, or 0. */
    private int faultOfShakes(int s) {
        if (!isBelow(s, SHEETS)) {
            return BEYOND;
        }
        if (sheets.isMissing(s)) {
            return MISSING;
        }
        if (sheets.sizes[s] < 2 || sheets.sizes[s] > PAIR_PLACES) {
            return SIZE;
        }
        for (int i = 0; i < sheets.sizes[s]; i++) {
            if (!isShake(sheets.at(s, i))) {
                return BEYOND;
            }
        }
        return 0;
    }

    private void layShakes(int s) {
        survey.take(now, NO_LETTER);
        for (int i = 0; i < sheets.sizes[s]; i++) {
            survey.layMisses(i, (int) sheets.at(s, i));
        }
    }

    private static int weightOfMiss(int miss) {
        return miss > MOST_MISS ? 0 : 1 << (2 * (MOST_MISS - miss));
    }

    private static int stepsBetween(int low, int high) {
        return (2 << high) - (1 << low);
    }

    // ---- what the sections of the document tell

    /** Section 1 without its LETTERS. */
    private static final class Land {
        final int[] grounds;
        final int[] cells;
        /** Six of each TOWN: as they were, then today. */
        final int[] houseRows;
        int towns;
        int day;

        Land() {
            grounds = new int[CELLS];
            cells = new int[TOWNS];
            houseRows = new int[TOWNS * 2 * SORTS];
            towns = 0;
            day = 0;
        }

        void become(Land other) {
            System.arraycopy(other.grounds, 0, grounds, 0, CELLS);
            System.arraycopy(other.cells, 0, cells, 0, TOWNS);
            System.arraycopy(other.houseRows, 0, houseRows, 0, houseRows.length);
            towns = other.towns;
            day = other.day;
        }

        int addTown(int cell) {
            int number = towns;
            cells[number] = cell;
            towns++;
            return number;
        }

        int setHouses(int town, int of, int n) {
            int at = town * 2 * SORTS + of;
            int was = houseRows[at];
            houseRows[at] = n;
            return was;
        }

        int allHouses(int town, int first) {
            int all = 0;
            for (int sort = 0; sort < SORTS; sort++) {
                all += houseRows[town * 2 * SORTS + first + sort];
            }
            return all;
        }

        int fallen(int town, int sort, int step) {
            int today = houseRows[town * 2 * SORTS + SORTS + sort];
            return today * inTheHundred(sort, step) / 100;
        }

        private static int inTheHundred(int sort, int step) {
            switch (sort) {
                case 0:
                    return Math.max(0, step - 5) * 10;
                case 1:
                    return Math.max(0, step - 3) * 11;
                default:
                    return Math.max(0, step - 7) * 5;
            }
        }
    }

    /** The LETTERS, as they were written. */
    private static final class Letters {
        final int[] kinds;
        final int[] abouts;
        final int[] words;
        final int[] dates;
        final int[] reckonings;
        final int[] knownFrom;
        final int[] sources;
        final int[] leans;
        int lostSet;
        int count;

        Letters() {
            kinds = new int[LETTERS];
            abouts = new int[LETTERS];
            words = new int[LETTERS];
            dates = new int[LETTERS];
            reckonings = new int[LETTERS];
            knownFrom = new int[LETTERS];
            sources = new int[LETTERS];
            leans = new int[LETTERS];
            lostSet = 0;
            count = 0;
        }

        void become(Letters other) {
            System.arraycopy(other.kinds, 0, kinds, 0, LETTERS);
            System.arraycopy(other.abouts, 0, abouts, 0, LETTERS);
            System.arraycopy(other.words, 0, words, 0, LETTERS);
            System.arraycopy(other.dates, 0, dates, 0, LETTERS);
            System.arraycopy(other.reckonings, 0, reckonings, 0, LETTERS);
            System.arraycopy(other.knownFrom, 0, knownFrom, 0, LETTERS);
            System.arraycopy(other.sources, 0, sources, 0, LETTERS);
            System.arraycopy(other.leans, 0, leans, 0, LETTERS);
            lostSet = other.lostSet;
            count = other.count;
        }

        int addLetter(int kind, int about, int when, int from, int late, int day) {
            int number = count;
            kinds[number] = kind;
            abouts[number] = about / 100;
            words[number] = about % 100;
            dates[number] = when / 10;
            reckonings[number] = when % 10;
            knownFrom[number] = day + late / 10;
            sources[number] = from;
            leans[number] = late % 10;
            count++;
            return number;
        }

        int fieldOf(int letter, int what) {
            switch (what) {
                case 0:
                    return kinds[letter];
                case 1:
                    return abouts[letter];
                case 2:
                    return words[letter];
                case 3:
                    return dates[letter];
                case 4:
                    return reckonings[letter];
                case 5:
                    return knownFrom[letter];
                case 6:
                    return isLost(letter) ? 1 : 0;
                case 7:
                    return sources[letter];
                default:
                    return leans[letter];
            }
        }

        boolean isLost(int letter) {
            return ((lostSet >> letter) & 1) == 1;
        }

        boolean isOfKind(int letter, int kind) {
            int above = kinds[letter];
            for (int level = 0; level < KINDS && above >= 0; level++) {
                if (above == kind) {
                    return true;
                }
                above = UNDER[above];
            }
            return false;
        }

        int everyOne() {
            return (1 << count) - 1;
        }

        int countOf(int town, int set) {
            int telling = 0;
            for (int letter = 0; letter < count; letter++) {
                if (((set >> letter) & 1) == 1 && abouts[letter] == town) {
                    telling++;
                }
            }
            return telling;
        }

        int rootOf(int letter) {
            int at = letter;
            for (int level = 0; level < LETTERS && sources[at] >= 0; level++) {
                at = sources[at];
            }
            return at;
        }

        int treeOf(int letter) {
            int root = rootOf(letter);
            int same = 0;
            for (int other = 0; other < count; other++) {
                if (rootOf(other) == root) {
                    same |= 1 << other;
                }
            }
            return same;
        }

        /** LETTERS that COUNT on a DAY if the LETTER gone (or NO_LETTER) were LOST. */
        int countingSet(int day, int gone) {
            int counting = 0;
            int copiedSet = 0;
            // What a COPIED one hangs on has a lesser number, so one way up is enough.
            for (int letter = 0; letter < count; letter++) {
                if (letter == gone || isLost(letter) || knownFrom[letter] > day || kinds[letter] == TORN) {
                    continue;
                }
                if (kinds[letter] == COPIED) {
                    int source = 1 << sources[letter];
                    if (((counting | copiedSet) & source) != 0) {
                        continue;
                    }
                    copiedSet |= source;
                }
                counting |= 1 << letter;
            }
            return counting;
        }
    }

    /** The TEXTS that have been read; RULE r of TEXT t stands at RULES * t + r. */
    private static final class Texts {
        final int[] inForceFrom;
        final int[] ruleCounts;
        final int[] keys;
        final int[] lows;
        final int[] highs;
        int count;

        Texts() {
            inForceFrom = new int[TEXTS];
            ruleCounts = new int[TEXTS];
            keys = new int[TEXTS * RULES];
            lows = new int[TEXTS * RULES];
            highs = new int[TEXTS * RULES];
            count = 0;
        }

        void become(Texts other) {
            System.arraycopy(other.inForceFrom, 0, inForceFrom, 0, TEXTS);
            System.arraycopy(other.ruleCounts, 0, ruleCounts, 0, TEXTS);
            System.arraycopy(other.keys, 0, keys, 0, keys.length);
            System.arraycopy(other.lows, 0, lows, 0, lows.length);
            System.arraycopy(other.highs, 0, highs, 0, highs.length);
            count = other.count;
        }

        int addText(int from, Tape read) {
            int number = count;
            inForceFrom[number] = from;
            ruleCounts[number] = read.rules;
            System.arraycopy(read.keys, 0, keys, number * RULES, RULES);
            System.arraycopy(read.lows, 0, lows, number * RULES, RULES);
            System.arraycopy(read.highs, 0, highs, number * RULES, RULES);
            count++;
            return number;
        }

        /** The place of the RULE that counts on a DAY for what is asked, or -1. */
        int ruleFor(int key, int day) {
            for (int text = count - 1; text >= 0; text--) {
                if (inForceFrom[text] > day) {
                    continue;
                }
                for (int rule = 0; rule < ruleCounts[text]; rule++) {
                    if (keys[text * RULES + rule] == key) {
                        return text * RULES + rule;
                    }
                }
            }
            return -1;
        }
    }

    private static final class Notes {
        final int[] shakes;
        final int[] misses;
        final int[] openDays;
        int count;

        Notes() {
            shakes = new int[NOTES];
            misses = new int[NOTES];
            openDays = new int[NOTES];
            count = 0;
        }

        void become(Notes other) {
            System.arraycopy(other.shakes, 0, shakes, 0, NOTES);
            System.arraycopy(other.misses, 0, misses, 0, NOTES);
            System.arraycopy(other.openDays, 0, openDays, 0, NOTES);
            count = other.count;
        }

        int addNote(int shake, int missed, int openDay) {
            int number = count;
            shakes[number] = shake;
            misses[number] = missed;
            openDays[number] = openDay;
            count++;
            return number;
        }
    }

    /** All that an image keeps: sections 1 to 4 of the document. */
    private static final class World {
        final Land land;
        final Letters letters;
        final Texts texts;
        final Notes notes;
        /** Room for the DAYS of one LETTER, used again by each call. */
        final int[] meantDays;

        World() {
            land = new Land();
            letters = new Letters();
            texts = new Texts();
            notes = new Notes();
            meantDays = new int[RECKONINGS];
        }

        void become(World other) {
            land.become(other.land);
            letters.become(other.letters);
            texts.become(other.texts);
            notes.become(other.notes);
        }

        int countingSet(int gone) {
            return letters.countingSet(land.day, gone);
        }

        int lawOf(int key) {
            int rule = texts.ruleFor(key, land.day);
            return rule < 0 ? LAW_WITHOUT[key] : texts.lows[rule];
        }

        int meaningSet(int word) {
            int rule = texts.ruleFor(KEY_WORD + word, land.day);
            return rule < 0 ? ALL_STEPS : stepsBetween(texts.lows[rule], texts.highs[rule]);
        }

        int letSet(int letter) {
            int set = meaningSet(letters.words[letter]);
            if (letters.kinds[letter] == BENT) {
                for (int lean = 0; lean < letters.leans[letter]; lean++) {
                    set |= set >> 1;
                }
            }
            if (letters.isOfKind(letter, HEARD)) {
                set |= (set >> 1) | (set << 1);
            }
            return set & ALL_STEPS;
        }

        /** Puts the unlike DAYS of a LETTER into meantDays, the least first: how many. */
        int fillDays(int letter) {
            int unlike = 0;
            for (int reckoning = 0; reckoning < RECKONINGS; reckoning++) {
                if (canBeBy(letter, reckoning)) {
                    unlike = putDay(unlike, letters.dates[letter] + lawOf(reckoning));
                }
            }
            return unlike;
        }

        private boolean canBeBy(int letter, int reckoning) {
            int told = letters.reckonings[letter];
            return told == NOT_TOLD || told == reckoning;
        }

        private int putDay(int unlike, int meant) {
            int at = 0;
            while (at < unlike && meantDays[at] < meant) {
                at++;
            }
            if (at < unlike && meantDays[at] == meant) {
                return unlike;
            }
            for (int i = unlike; i > at; i--) {
                meantDays[i] = meantDays[i - 1];
            }
            meantDays[at] = meant;
            return unlike + 1;
        }

        /** LETTERS that COUNT and can mean a DAY that this one can mean. */
        int sameDaySet(int letter) {
            int counting = countingSet(NO_LETTER);
            int unlike = fillDays(letter);
            int same = 0;
            for (int reckoning = 0; reckoning < RECKONINGS; reckoning++) {
                int more = lawOf(reckoning);
                for (int other = 0; other < letters.count; other++) {
                    if (canBeBy(other, reckoning) && hasDay(unlike, letters.dates[other] + more)) {
                        same |= 1 << other;
                    }
                }
            }
            return same & counting;
        }

        private boolean hasDay(int unlike, int meant) {
            for (int i = 0; i < unlike; i++) {
                if (meantDays[i] == meant) {
                    return true;
                }
            }
            return false;
        }
    }

    /** THE TAPE, and the reading of it as a TEXT. */
    private static final class Tape {
        private static final int END = 0;
        private static final int NAME = 1;
        private static final int NUMBER = 2;
        private static final int SIGN = 3;
        private static final int NO_TOKEN = 4;
        /** Above every NUMBER that a RULE can hold, and far from overflow. */
        private static final int TOO_GREAT = 100000;

        final int[] bytes;
        int length;
        /** The RULES that readText() found. */
        final int[] keys;
        final int[] lows;
        final int[] highs;
        int rules;
        /** The TOKEN that is looked at: its first byte, the byte behind it, its sort and value. */
        private int start;
        private int end;
        private int sort;
        private int value;

        Tape() {
            bytes = new int[TAPE_BYTES];
            length = 0;
            keys = new int[RULES];
            lows = new int[RULES];
            highs = new int[RULES];
            rules = 0;
        }

        void append(int number, int n) {
            for (int i = n - 1; i >= 0; i--) {
                bytes[length] = (number >> (8 * i)) & 255;
                length++;
            }
        }

        /** Reads a TEXT: its FAULT, or -1. */
        int readText() {
            rules = 0;
            end = 0;
            for (int rule = 0; rule < RULES; rule++) {
                advance();
                if (!readRule(rule)) {
                    return start;
                }
                rules++;
                if (!isSign(';')) {
                    return sort == END ? -1 : start;
                }
            }
            advance();
            return start;
        }

        private boolean readRule(int rule) {
            if (takeName("word")) {
                return takeAbout(rule, KEY_WORD, WORDS - 1) && takeName("is") && takeSteps(rule);
            }
            if (takeName("reckon")) {
                return takeAbout(rule, 0, RECKONINGS - 1) && takeName("more") && takeValue(rule, 0, 99);
            }
            if (takeName("falls")) {
                keys[rule] = KEY_FALLS;
                return takeValue(rule, 1, 20);
            }
            if (takeName("ground")) {
                return takeAbout(rule, KEY_GROUND, GROUNDS - 1) && takeName("more") && takeValue(rule, 0, 9);
            }
            return false;
        }

        private boolean takeAbout(int rule, int key, int most) {
            keys[rule] = key + value;
            return takeNumber(0, most);
        }

        private boolean takeValue(int rule, int least, int most) {
            lows[rule] = value;
            highs[rule] = value;
            return takeNumber(least, most);
        }

        private boolean takeSteps(int rule) {
            lows[rule] = value;
            highs[rule] = value;
            if (!takeNumber(0, LAST_STEP)) {
                return false;
            }
            if (!isSign('-')) {
                return true;
            }
            advance();
            highs[rule] = value;
            return takeNumber(lows[rule], LAST_STEP);
        }

        private boolean takeNumber(int least, int most) {
            if (sort != NUMBER || value < least || value > most) {
                return false;
            }
            advance();
            return true;
        }

        private boolean takeName(String name) {
            if (sort != NAME || end - start != name.length()) {
                return false;
            }
            for (int i = 0; i < name.length(); i++) {
                if (bytes[start + i] != name.charAt(i)) {
                    return false;
                }
            }
            advance();
            return true;
        }

        private boolean isSign(char sign) {
            return sort == SIGN && value == sign;
        }

        /** Looks at the next TOKEN. */
        private void advance() {
            start = end;
            while (start < length && bytes[start] == ' ') {
                start++;
            }
            sort = start < length ? sortOf(bytes[start]) : END;
            value = sort == SIGN ? bytes[start] : 0;
            end = Math.min(length, start + 1);
            boolean grows = sort == NAME || sort == NUMBER;
            while (grows && end < length && sortOf(bytes[end]) == sort) {
                end++;
            }
            for (int i = start; i < end && sort == NUMBER; i++) {
                value = Math.min(TOO_GREAT, 10 * value + bytes[i] - '0');
            }
        }

        private static int sortOf(int b) {
            if (b >= 'a' && b <= 'z') {
                return NAME;
            }
            if (b >= '0' && b <= '9') {
                return NUMBER;
            }
            return b == ';' || b == '-' ? SIGN : NO_TOKEN;
        }
    }

    /** Section 5: the numbers of sheet s stand from SHEET_NUMBERS * s on. */
    private static final class Sheets {
        final long[] numbers;
        /** How many bits the numbers of each have; 0: it is MISSING. */
        final int[] widths;
        final int[] sizes;

        Sheets() {
            numbers = new long[SHEETS * SHEET_NUMBERS];
            widths = new int[SHEETS];
            sizes = new int[SHEETS];
        }

        boolean isMissing(int s) {
            return widths[s] == 0;
        }

        long at(int s, int i) {
            return numbers[s * SHEET_NUMBERS + i];
        }

        int layAnew(int s, int bits, int n) {
            widths[s] = bits;
            sizes[s] = bits == 0 ? 0 : n;
            Arrays.fill(numbers, s * SHEET_NUMBERS, (s + 1) * SHEET_NUMBERS, 0L);
            return sizes[s];
        }

        long put(int s, int i, long v) {
            long was = at(s, i);
            numbers[s * SHEET_NUMBERS + i] = lowestBits(v, widths[s]);
            return was;
        }

        private static long lowestBits(long v, int bits) {
            switch (bits) {
                case 8:
                    return (byte) v;
                case 16:
                    return (short) v;
                default:
                    return v;
            }
        }

        boolean allBelow(int s, int bound) {
            for (int i = 0; i < sizes[s]; i++) {
                if (at(s, i) < 0 || at(s, i) >= bound) {
                    return false;
                }
            }
            return true;
        }

        boolean hasRange(int s, int from, int n) {
            // Less, not plus: from and n together may wrap around.
            return from >= 0 && n >= 0 && n <= sizes[s] - from;
        }

        void move(int s, int from, int t, int to, int n) {
            System.arraycopy(numbers, s * SHEET_NUMBERS + from, numbers, t * SHEET_NUMBERS + to, n);
        }
    }

    /** What the open DAY's LETTERS and TEXTS say of SHAKES; take() must come first. */
    private static final class Survey {
        final int[] spans;
        private int towns;
        private int fallsBy;
        private final int[] xs;
        private final int[] ys;
        private final int[] mores;
        /** MISS of each TOWN by STEP. */
        private final int[] missByStep;
        /** MISS of each TOWN by the SHAKES that layMisses() was given. */
        private final int[] laid;
        /** Of one CELL and DEPTH: STEP of each TOWN less STRENGTH, and MISS by STRENGTH. */
        private final int[] lifts;
        private final int[] row;
        private final long[] cellWeights;
        private final int[] stepCounts;

        Survey() {
            spans = new int[TOWNS];
            xs = new int[TOWNS];
            ys = new int[TOWNS];
            mores = new int[TOWNS];
            missByStep = new int[TOWNS * STEPS];
            laid = new int[PAIR_PLACES * TOWNS];
            lifts = new int[TOWNS];
            row = new int[STRENGTHS];
            cellWeights = new long[CELLS];
            stepCounts = new int[TOWNS * STEPS];
            towns = 0;
            fallsBy = 1;
        }

        /** Looks at a world as if the LETTER gone (or NO_LETTER) were LOST. */
        void take(World world, int gone) {
            towns = world.land.towns;
            fallsBy = Math.max(1, world.lawOf(KEY_FALLS));
            takeSpans(world, gone);
            for (int town = 0; town < towns; town++) {
                int cell = world.land.cells[town];
                xs[town] = cell % SIDE;
                ys[town] = cell / SIDE;
                mores[town] = world.lawOf(KEY_GROUND + world.land.grounds[cell]);
                for (int step = 0; step < STEPS; step++) {
                    missByStep[town * STEPS + step] = distance(spans[town], step);
                }
            }
        }

        private void takeSpans(World world, int gone) {
            Arrays.fill(spans, ALL_STEPS);
            int counting = world.countingSet(gone);
            for (int letter = 0; letter < world.letters.count; letter++) {
                if (((counting >> letter) & 1) == 1) {
                    spans[world.letters.abouts[letter]] &= world.letSet(letter);
                }
            }
        }

        private static int distance(int span, int step) {
            for (int far = 0; far < STEPS; far++) {
                boolean above = ((span >> (step + far)) & 1) == 1;
                boolean below = far <= step && ((span >> (step - far)) & 1) == 1;
                if (above || below) {
                    return far;
                }
            }
            return MISS_OF_EMPTY;
        }

        private int lift(int town, int cell, int depth) {
            int dx = cell % SIDE - xs[town];
            int dy = cell / SIDE - ys[town];
            return mores[town] - (dx * dx + dy * dy + 9 * depth) / fallsBy;
        }

        private static int bounded(int step) {
            return Math.max(0, Math.min(LAST_STEP, step));
        }

        int stepOf(int shake, int town) {
            return bounded(shake / 10 % 100 + lift(town, shake / 1000, shake % 10));
        }

        int missIn(int shake, int town) {
            return missByStep[town * STEPS + stepOf(shake, town)];
        }

        int missOf(int shake) {
            int all = 0;
            for (int town = 0; town < towns; town++) {
                all += missIn(shake, town);
            }
            return all;
        }

        void layMisses(int place, int shake) {
            for (int town = 0; town < towns; town++) {
                laid[place * TOWNS + town] = missIn(shake, town);
            }
        }

        int missOfTwo(int place, int other) {
            int all = 0;
            for (int town = 0; town < towns; town++) {
                all += Math.min(laid[place * TOWNS + town], laid[other * TOWNS + town]);
            }
            return all;
        }

        /** Of the first places that were laid: 100 * the lesser + the greater. */
        int bestPair(int places) {
            int best = 1;
            int least = ABOVE_ALL;
            for (int place = 0; place < places; place++) {
                for (int other = place + 1; other < places; other++) {
                    int missed = missOfTwo(place, other);
                    if (missed < least) {
                        least = missed;
                        best = 100 * place + other;
                    }
                }
            }
            return best;
        }

        int leastAlone(int places) {
            int least = missOfTwo(0, 0);
            for (int place = 1; place < places; place++) {
                least = Math.min(least, missOfTwo(place, place));
            }
            return least;
        }

        private void fillRow(int cell, int depth) {
            Arrays.fill(row, 0);
            for (int town = 0; town < towns; town++) {
                lifts[town] = lift(town, cell, depth);
                addChanges(town);
            }
            for (int strength = 1; strength < STRENGTHS; strength++) {
                row[strength] += row[strength - 1];
            }
        }

        /**
         * MISS of a TOWN changes only where its STEP does, so the row takes the
         * changes alone and fillRow() adds them up: four times fewer visits.
         */
        private void addChanges(int town) {
            int at = town * STEPS;
            int first = bounded(lifts[town]);
            row[0] += missByStep[at + first];
            for (int step = first + 1; step < STEPS; step++) {
                int strength = step - lifts[town];
                if (strength >= STRENGTHS) {
                    return;
                }
                row[strength] += missByStep[at + step] - missByStep[at + step - 1];
            }
        }

        long weighCell(int cell, int depth) {
            fillRow(cell, depth);
            long all = 0;
            for (int strength = 0; strength < STRENGTHS; strength++) {
                all += weightOfMiss(row[strength]);
            }
            return all;
        }

        /** All WEIGHTS of THE GRID; those of each CELL are there for takeWeight(). */
        long weighGrid(int depth) {
            long all = 0;
            for (int cell = 0; cell < CELLS; cell++) {
                cellWeights[cell] = weighCell(cell, depth);
                all += cellWeights[cell];
            }
            return all;
        }

        int heaviestCell() {
            int heaviest = 0;
            for (int cell = 1; cell < CELLS; cell++) {
                if (cellWeights[cell] > cellWeights[heaviest]) {
                    heaviest = cell;
                }
            }
            return heaviest;
        }

        /** The WEIGHT of a CELL, which counts once: it is 0 then. */
        long takeWeight(int cell) {
            long taken = cellWeights[cell];
            cellWeights[cell] = 0;
            return taken;
        }

        int bestShake(int depth) {
            int best = depth;
            int least = ABOVE_ALL;
            for (int cell = 0; cell < CELLS; cell++) {
                fillRow(cell, depth);
                for (int strength = 0; strength < STRENGTHS; strength++) {
                    if (row[strength] < least) {
                        least = row[strength];
                        best = 1000 * cell + 10 * strength + depth;
                    }
                }
            }
            return best;
        }

        /** The TOWN to ask next, or -1. */
        int townToAsk(int depth) {
            countSteps(depth, missOf(bestShake(depth)));
            int asked = -1;
            int fewest = ABOVE_ALL;
            for (int town = 0; town < towns; town++) {
                int most = mostOfOneStep(town);
                if (isWide(town) && most < fewest) {
                    fewest = most;
                    asked = town;
                }
            }
            return asked;
        }

        private boolean isWide(int town) {
            return Integer.bitCount(spans[town]) > 1;
        }

        /** Counts the SHAKES with a MISS by their STEP in each TOWN that may be asked. */
        private void countSteps(int depth, int least) {
            Arrays.fill(stepCounts, 0);
            for (int cell = 0; cell < CELLS; cell++) {
                fillRow(cell, depth);
                for (int strength = 0; strength < STRENGTHS; strength++) {
                    if (row[strength] == least) {
                        countStepsOf(strength);
                    }
                }
            }
        }

        private void countStepsOf(int strength) {
            for (int town = 0; town < towns; town++) {
                if (isWide(town)) {
                    stepCounts[town * STEPS + bounded(strength + lifts[town])]++;
                }
            }
        }

        private int mostOfOneStep(int town) {
            int most = 0;
            for (int step = 0; step < STEPS; step++) {
                most = Math.max(most, stepCounts[town * STEPS + step]);
            }
            return most;
        }
    }
}

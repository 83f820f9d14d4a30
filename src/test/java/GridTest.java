/** Promises 37 to 43: the grid, against the single calls that tell of one SHAKE. */
public final class GridTest {
    private static final Due DUE = new Due("GridTest");

    public static void main(String[] args) {
        weight();
        grids();
        allWeightsAreNought();
        judgeAlikeCells();
        lightWeights();
        next();
        without();
        DUE.end();
    }

    private static void weight() {
        ShakeLetters x = new ShakeLetters();
        x.town(0);
        Due.read(x, "word 0 is 0", 0);
        x.letter(1, 0, 0, -1, 0);
        long want = 1048576;
        for (int strength = 0; strength <= 10; strength++) {
            DUE.is("weight by MISS " + strength, x.weight(10 * strength), want);
            want /= 4;
        }
        DUE.is("weight by MISS 11", x.weight(110), 0);
        DUE.is("weight by MISS 11 of 39", x.weight(390), 0);
    }

    private static ShakeLetters withTowns(int seed) {
        ShakeLetters x = new ShakeLetters();
        int towns = 1 + seed % 16;
        for (int i = 0; i < towns; i++) {
            int cell = (seed * 37 + i * 53) % 144;
            x.town(cell);
            x.ground(cell, (seed + i) % 3);
        }
        Due.read(x, "word 0 is 6-8; word 1 is 3; word 2 is 9 - 11; falls " + (1 + seed % 20), 0);
        for (int i = 0; i < towns && i < 6; i++) {
            x.letter(i % 2 == 0 ? 1 : 2, 100 * i + (seed + i) % 4, 0, -1, 0);
        }
        return x;
    }

    /** The same land over and over, since the document promises nothing of an object behind its 512th call. */
    private static final class Renewed {
        private final int seed;
        private ShakeLetters x;
        private int asked = 0;

        Renewed(int seed) {
            this.seed = seed;
        }

        ShakeLetters get() {
            if (asked % 300 == 0) {
                x = withTowns(seed);
            }
            asked++;
            return x;
        }
    }

    /** What the single calls tell of THE GRID of a DEPTH, in the order of the SHAKES' numbers. */
    private static int[] misses(Renewed land, int depth) {
        int[] misses = new int[144 * 40];
        for (int i = 0; i < misses.length; i++) {
            misses[i] = land.get().miss(1000 * (i / 40) + 10 * (i % 40) + depth, -1);
        }
        return misses;
    }

    private static void grids() {
        for (int seed = 0; seed < 24; seed++) {
            ShakeLetters x = withTowns(seed);
            int depth = seed % 4;
            Renewed land = new Renewed(seed);
            int[] misses = misses(land, depth);
            long[] weights = new long[144];
            long all = 0;
            int best = 0;
            for (int i = 0; i < misses.length; i++) {
                long weight = misses[i] > 10 ? 0 : 1L << (20 - 2 * misses[i]);
                weights[i / 40] += weight;
                all += weight;
                best = misses[i] < misses[best] ? i : best;
            }
            String name = "grid " + seed + ": ";
            DUE.is(name + "best", x.best(depth), 1000 * (best / 40) + 10 * (best % 40) + depth);
            DUE.is(name + "odds of all", x.odds(depth, -1), all);
            for (int cell = 0; cell < 144; cell++) {
                DUE.is(name + "odds of " + cell, x.odds(depth, cell), weights[cell]);
            }
            DUE.is(name + "next", x.next(depth), townToAsk(land, depth, misses, misses[best]));
            if (all > 0) {
                dueShares(name, x, depth, weights, all);
            }
        }
    }

    private static void dueShares(String name, ShakeLetters x, int depth, long[] weights, long all) {
        x.sheet(0, 16, 40);
        long told = weights[0];
        for (int i = 0; i < 39; i++) {
            x.write(0, i, 11 + 3 * i);
            told += weights[11 + 3 * i];
        }
        DUE.is(name + "judge", x.judge(depth, 0), told * 100 / all);
        long[] sorted = weights.clone();
        java.util.Arrays.sort(sorted);
        for (int share : new int[] {0, 1, 10, 33, 50, 75, 99, 100}) {
            int cells = 0;
            long held = 0;
            while (held * 100 < all * share) {
                held += sorted[143 - cells];
                cells++;
            }
            DUE.is(name + "narrow to " + share, x.narrow(depth, share), cells);
        }
    }

    private static long townToAsk(Renewed land, int depth, int[] misses, int least) {
        long asked = Due.NONE;
        int fewest = Integer.MAX_VALUE;
        int towns = land.get().look(0);
        for (int town = 0; town < towns; town++) {
            int[] bySteps = new int[12];
            for (int i = 0; i < misses.length; i++) {
                if (misses[i] == least) {
                    bySteps[land.get().step(1000 * (i / 40) + 10 * (i % 40) + depth, town)]++;
                }
            }
            int most = java.util.Arrays.stream(bySteps).max().getAsInt();
            if (Integer.bitCount(land.get().span(town)) > 1 && most < fewest) {
                fewest = most;
                asked = town;
            }
        }
        return asked;
    }

    private static ShakeLetters withEmptySpan() {
        ShakeLetters x = new ShakeLetters();
        x.town(0);
        Due.read(x, "word 0 is 0; word 1 is 1", 0);
        x.letter(1, 0, 0, -1, 0);
        x.letter(1, 1, 0, -1, 0);
        return x;
    }

    private static void allWeightsAreNought() {
        ShakeLetters x = withEmptySpan();
        DUE.is("odds of nothing", x.odds(1, -1), 0);
        DUE.is("odds of nothing in a CELL", x.odds(1, 143), 0);
        DUE.is("best of like ones", x.best(3), 3);
        DUE.is("without one of two", x.without(0, 0), 0);
    }

    private static void judgeAlikeCells() {
        ShakeLetters x = new ShakeLetters();
        x.sheet(0, 64, 3);
        DUE.is("judge: CELL 0 counts once", x.judge(0, 0), 0);
        x.write(0, 1, 143);
        DUE.is("judge: 2 of 144", x.judge(0, 0), 1);
        x.sheet(0, 64, 0);
        DUE.is("judge: no numbers", x.judge(0, 0), 0);
        for (int s : new int[] {2, 3}) {
            x.sheet(s, 64, 40);
            for (int i = 0; i < 40; i++) {
                x.write(s, i, 100 + i);
            }
        }
        x.write(3, 0, -1);
        DUE.is("judge: a whole sheet, whatever the next one has", x.judge(0, 2), 27);
        x.write(3, 0, 0);
        DUE.is("judge: the whole last sheet", x.judge(0, 3), 27);
        DUE.is("narrow: each CELL alike", x.narrow(0, 50), 72);
        DUE.is("narrow: one more", x.narrow(0, 51), 74);
    }

    /** Where each WEIGHT is 1 or 0, one that is counted twice by a little is seen. */
    private static void lightWeights() {
        ShakeLetters x = new ShakeLetters();
        x.town(0);
        x.town(0);
        Due.read(x, "word 0 is 0; word 1 is 10; falls 1", 0);
        x.letter(1, 0, 0, -1, 0);
        x.letter(1, 101, 0, -1, 0);
        DUE.is("light: CELL 143", x.odds(0, 143), 40);
        DUE.is("light: CELL 0", x.odds(0, 0), 11);
        long all = x.odds(0, -1);
        x.sheet(0, 16, 40);
        for (int i = 0; i < 40; i++) {
            x.write(0, i, 143);
        }
        DUE.is("light: it would be seen", (40 + 39) * 100 / all - 40 * 100 / all > 0 ? 1 : 0, 1);
        DUE.is("light: judge", x.judge(0, 0), 40 * 100 / all);
        DUE.is("light: narrow to all", x.narrow(0, 100), 144);
    }

    private static void next() {
        ShakeLetters x = new ShakeLetters();
        x.town(65);
        x.town(65);
        DUE.is("of like ones the least", x.next(0), 0);
        x.town(0);
        // From the corner the SHAKES of THE GRID are more unlike than from amid.
        DUE.is("the fewest, not the least", x.next(0), 2);
        Due.read(x, "word 0 is 6; word 1 is 5-7", 0);
        x.letter(1, 0, 0, -1, 0);
        DUE.is("not one whose span has one step", x.next(0), 2);
        x.letter(1, 200, 0, -1, 0);
        DUE.is("the one that is left", x.next(0), 1);
        x.letter(1, 100, 0, -1, 0);
        x.reread(2, 1);
        DUE.is("a span of three steps", x.next(0), 1);
        Due.read(x, "word 1 is 5-6", 0);
        DUE.is("a span of two steps", x.next(0), 1);
    }

    private static void without() {
        ShakeLetters x = new ShakeLetters();
        x.town(0);
        x.town(1);
        Due.read(x, "word 0 is 0; word 1 is 11; word 2 is 5", 0);
        x.letter(1, 0, 0, -1, 0);
        x.letter(1, 101, 0, -1, 0);
        x.letter(3, 1, 0, 0, 0);
        DUE.is("without(0, 1)", x.without(0, 1), 0);
        DUE.is("without(0, 0): its copy counts then", x.without(0, 0), 0);
        long with = x.miss(x.best(0), -1);
        DUE.is("without(0, 2): it doesn't count", x.without(0, 2), with);
        DUE.is("there is a MISS with all", with > 0 ? 1 : 0, 1);
        x.lose(1, true);
        DUE.is("without a LOST one", x.without(0, 1), 0);
        x.lose(1, false);
        DUE.is("nothing is LOST by that", x.look(3), 0);
    }
}

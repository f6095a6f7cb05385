/** Promises 24 to 27: rests, chances, the seed and talks by it. */
public final class ChancesTest {
    private static final Check check = new Check();
    private static final int MIN = Integer.MIN_VALUE, MAX = Integer.MAX_VALUE;

    public static void main(String[] args) {
        rests();
        chances();
        seeds();
        talks();
        check.end();
    }

    private static void rest(MustardTreaty x, int one, int other, int count, int first) {
        check.due("rests(" + one + ", " + other + ", 0)", x.rests(one, other, 0), count);
        check.due("rests(" + one + ", " + other + ", 1)", x.rests(one, other, 1), first);
    }

    private static void rests() {
        // Without pain each would be the later one: only both at last are at rest.
        rest(Check.talking("M00E990E990"), 0, 1, 1, 44);
        // Who is in pain stops at once, the other at any later time.
        MustardTreaty x = Check.talking("M90E990E010E990");
        rest(x, 0, 1, 4, 10);
        rest(x, 1, 0, 4, 1);
        rest(x, 0, 2, 1, 44);
        x.bite();
        rest(x, 1, 0, 4, 1);
        bothInPain();
        int[][] unknown = {{-1, 0}, {0, -1}, {3, 0}, {0, 3}, {MIN, 0}, {0, MIN}, {MAX, 0}, {0, MAX}, {3, 3}};
        for (int[] u : unknown) {
            check.due("rests(" + u[0] + ", " + u[1] + ", 0)", x.rests(u[0], u[1], 0), -1);
            check.due("rests(" + u[0] + ", " + u[1] + ", 9)", x.rests(u[0], u[1], 9), -1);
        }
        check.due("rests(1, 1, 0)", x.rests(1, 1, 0), -2);
        int[] bad = {-1, 2, MIN, MAX};
        for (int what : bad) {
            check.due("rests(0, 1, " + what + ")", x.rests(0, 1, what), -2);
        }
    }

    /**
     * PAINS 2, 1, 0 ..: stopping first behind k bites loses 4 + P(k), together 2 + P(k), later P(k),
     * with P = 0, 2, 3, 3, 3. Against 0: 2 at 0, 0 later. Against 1: 4 at 0, 4 at 1, 2 later.
     * Against 2: 4 at 0, 6, 5, 3 later. Against 3: 4, 6, 7, 5, 3. Against 4: 4, 6, 7, 7, 5.
     * The best answers: to 0: 1 .. 4; to 1: 2 .. 4; to 2: 3, 4; to 3: 4; to 4: 0.
     * At rest: (0, 4), as 0 answers 4 and 4 answers 0; and (4, 0).
     */
    private static void bothInPain() {
        rest(Check.talking("M20E010E010"), 0, 1, 2, 4);
        // One bite hurts by 1: against 4, 0 loses 4 and 4 loses 3; with a weeper's 2 it is 4 and 4.
        rest(Check.talking("M10E010E010"), 0, 1, 1, 44);
        rest(Check.talking("M10E012E012"), 0, 1, 3, 4);
    }

    private static void chance(MustardTreaty x, int n, int tenths, int above, int below) {
        check.due("chance(0, " + n + ", " + tenths + ", true)", x.chance(0, n, tenths, true), above);
        check.due("chance(0, " + n + ", " + tenths + ", false)", x.chance(0, n, tenths, false), below);
    }

    private static void chances() {
        // One bite without a sneeze stops it.
        MustardTreaty x = Check.talking("M90E010");
        chance(x, 1, 0, 0, 1);
        chance(x, 1, 3, 3, 10);
        chance(x, 1, 10, 1, 1);
        chance(x, 2, 5, 1, 4);
        chance(x, 6, 1, 1, 1000000);
        chance(x, 6, 9, 531441, 1000000);
        chance(x, 6, 10, 1, 1);
        // 8 TEARS stop it: 3 at 3, 2 at 2, 1 at 1 come to 6.
        chance(Check.talking("M30E040"), 6, 0, 1, 1);
        // 6 stop it: only without a sneeze in the first three.
        chance(Check.talking("M30E030"), 6, 5, 7, 8);
        chance(Check.talking("M30E030"), 2, 5, 1, 1);
        // TEARS that are there count: behind one bite 3 of 6.
        MustardTreaty wept = Check.talking("M30E030");
        wept.bite();
        chance(wept, 2, 5, 3, 4);
        x.bite();
        chance(x, 1, 10, 0, 1);
        check.due("bad for one that EATS no more", x.chance(0, 0, 0, true), -2);
        int[] unknown = {-1, 1, MIN, MAX, 32};
        for (int e : unknown) {
            check.due("chance(" + e + ", 1, 1, true)", x.chance(e, 1, 1, true), -1);
            check.due("chance(" + e + ", 0, 11, true)", x.chance(e, 0, 11, true), -1);
        }
        int[][] bad = {{0, 0}, {7, 0}, {-1, 0}, {MIN, 0}, {MAX, 0}, {1, -1}, {1, 11}, {1, MIN}, {1, MAX}};
        for (int[] b : bad) {
            check.due("chance(0, " + b[0] + ", " + b[1] + ", false)", x.chance(0, b[0], b[1], false), -2);
        }
    }

    private static void seeds() {
        MustardTreaty x = new MustardTreaty();
        check.due("seed(-1)", x.seed(-1L), 0);
        check.due("seed(MIN)", x.seed(Long.MIN_VALUE), -1L);
        check.due("seed(MAX)", x.seed(Long.MAX_VALUE), Long.MIN_VALUE);
        check.due("seed(0)", x.seed(0), Long.MAX_VALUE);
        check.due("talks(1)", x.talks(1), 0);
        check.due("THE SEED behind one of talks", x.seed(1), 1442695040888963407L);
        check.due("talks(2)", x.talks(2), 0);
        long one = 6364136223846793005L + 1442695040888963407L;
        check.due("THE SEED behind two", x.seed(5), one * 6364136223846793005L + 1442695040888963407L);
    }

    /** A seed by which the first draw is this one, as the document draws it. */
    private static long seedFor(int drawn) {
        for (long v = 0; v < 10000; v++) {
            if (drawBy(v) == drawn) {
                return v;
            }
        }
        throw new IllegalStateException("no seed for " + drawn);
    }

    private static int drawBy(long v) {
        return (int) (((v * 6364136223846793005L + 1442695040888963407L) >>> 33) % 12);
    }

    private static void talks() {
        MustardTreaty x = Check.talking("M00E990C100C200C300C400C100");
        int[] worth = {1, 2, 3, 4, 1, 0, 0, 0, 0, 0, 0, 0};
        for (int drawn = 0; drawn < 12; drawn++) {
            x.seed(seedFor(drawn));
            check.due("talks(1) by " + drawn, x.talks(1), worth[drawn]);
        }
        check.due("nothing is BOUND by it", x.about(5), 0);
        x.say(0);
        x.seed(seedFor(0));
        check.due("talks(1) of a BOUND one", x.talks(1), 0);
        x.seed(seedFor(1));
        check.due("talks(1), anew alone counts", x.talks(1), 2);
        MustardTreaty few = Check.talking("M00E990C100");
        few.seed(seedFor(4));
        check.due("talks(1) of a CLAUSE that is not there", few.talks(1), 0);
        seededAndBitten();
        x.seed(77);
        int[] bad = {0, 31, -1, MIN, MAX};
        for (int m : bad) {
            check.due("talks(" + m + ")", x.talks(m), -2);
        }
        check.due("THE SEED behind bad ones", x.seed(0), 77);
    }

    private static void seededAndBitten() {
        long seeded = seedForTwo(5);
        MustardTreaty x = Check.talking("M01E990C120");
        x.seed(seeded);
        check.due("talks(2): SEEDED, then SAID", x.talks(2), 3);
        MustardTreaty none = Check.talking("M00E990C120");
        none.seed(seeded);
        check.due("talks(2): no SEED", none.talks(2), 0);
        for (int drawn = 6; drawn < 12; drawn++) {
            MustardTreaty y = Check.talking("M31E990C400");
            y.seed(seedForTwo(drawn));
            check.due("talks(2): a BITE, then SAID", y.talks(2), 4);
        }
        MustardTreaty over = Check.talking("M90E010C100");
        over.bite();
        check.due("talks(30) when nobody EATS", over.talks(30), 0);
    }

    /** A seed that draws this first and CLAUSE 0 behind it. */
    private static long seedForTwo(int drawn) {
        for (long v = 0; v < 100000; v++) {
            if (drawBy(v) == drawn && drawBy(v * 6364136223846793005L + 1442695040888963407L) == 0) {
                return v;
            }
        }
        throw new IllegalStateException("no seed for " + drawn);
    }
}

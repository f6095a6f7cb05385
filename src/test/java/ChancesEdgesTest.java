import java.math.BigInteger;
import java.util.HashSet;
import java.util.Set;
import java.util.function.LongPredicate;

/** Boundary cases of promises 24 to 27: rests, chances, the seed and talks by it. */
public final class ChancesEdgesTest {
    private static final int UNKNOWN = -1, BAD = -2;
    private static final int[] NOBODY = {-1, 4, 32, Edges.MIN, Edges.MAX};
    private static final BigInteger WHOLE = BigInteger.ONE.shiftLeft(64);
    private static final BigInteger TIMES = new BigInteger("6364136223846793005");
    private static final BigInteger MORE = new BigInteger("1442695040888963407");

    public static void main(String[] args) {
        Edges.run(ChancesEdgesTest.class, 24, 27);
    }

    // ---- 24: rests

    private static void rests(Check c, MustardTreaty x, int one, int other, int count, int first) {
        c.due("rests(" + one + ", " + other + ", 0)", x.rests(one, other, 0), count);
        c.due("rests(" + one + ", " + other + ", 1)", x.rests(one, other, 1), first);
    }

    static void promise24_onlyTheOneThatIsThereIsKnown(Check c) {
        MustardTreaty x = Check.talking("M00E990E990E990E990");
        rests(c, x, 0, 1, 1, 44);
        rests(c, x, 3, 0, 1, 44);
        for (int one : NOBODY) {
            rests(c, x, one, 0, UNKNOWN, UNKNOWN);
        }
    }

    static void promise24_onlyTheOtherThatIsThereIsKnown(Check c) {
        MustardTreaty x = Check.talking("M00E990E990E990E990");
        rests(c, x, 1, 0, 1, 44);
        rests(c, x, 0, 3, 1, 44);
        for (int other : NOBODY) {
            rests(c, x, 0, other, UNKNOWN, UNKNOWN);
        }
    }

    static void promise24_nobodyIsThere(Check c) {
        rests(c, new MustardTreaty(), 0, 1, UNKNOWN, UNKNOWN);
        rests(c, Check.talking("M00E990"), 0, 1, UNKNOWN, UNKNOWN);
    }

    static void promise24_bothAreOne(Check c) {
        MustardTreaty x = Check.talking("M00E990E990");
        rests(c, x, 0, 0, BAD, BAD);
        rests(c, x, 1, 1, BAD, BAD);
        rests(c, Check.talking("M00E990"), 0, 0, BAD, BAD);
    }

    static void promise24_whatIs0And1(Check c) {
        MustardTreaty x = Check.talking("M00E990E990");
        int[] bad = {-1, 2, Edges.MIN, Edges.MAX};
        for (int what : bad) {
            c.due("rests(0, 1, " + what + ")", x.rests(0, 1, what), BAD);
        }
    }

    static void promise24_unknownIsToldAheadOfBad(Check c) {
        MustardTreaty x = Check.talking("M00E990E990");
        c.due("both are one that is not there", x.rests(2, 2, 0), UNKNOWN);
        c.due("both are -1", x.rests(-1, -1, 0), UNKNOWN);
        c.due("the first one and what", x.rests(2, 0, 2), UNKNOWN);
        c.due("the other one and what", x.rests(0, 2, -1), UNKNOWN);
    }

    static void promise24_whatIsRefusedChangesNothing(Check c) {
        Edges.refused(c, UNKNOWN, "rests(4, 0, 0)", x -> x.rests(4, 0, 0));
        Edges.refused(c, UNKNOWN, "rests(0, 4, 0)", x -> x.rests(0, 4, 0));
        Edges.refused(c, BAD, "rests(1, 1, 0)", x -> x.rests(1, 1, 0));
        Edges.refused(c, BAD, "rests(0, 1, 2)", x -> x.rests(0, 1, 2));
    }

    static void promise24_withoutPainBothStopBehind4(Check c) {
        rests(c, Check.talking("M00E010E010"), 0, 1, 1, 44);
        rests(c, Check.talking("M90E011E910"), 0, 1, 1, 44);
    }

    /** The other bears all: who has lost 4 or more by waiting for it would rather sign at once. */
    static void promise24_whoSignsLoses4(Check c) {
        rests(c, Check.talking("M40E090E991"), 0, 1, 4, 1);
        rests(c, Check.talking("M30E090E991"), 0, 1, 3, 2);
        rests(c, Check.talking("M20E090E991"), 0, 1, 1, 4);
        rests(c, Check.talking("M10E090E991"), 0, 1, 1, 44);
    }

    /** Behind 4 BITES each has lost 1, 2, 3 in all, and 2 more by stopping at once with the other; 4 by signing now. */
    static void promise24_whoStopAtOnceLose2Each(Check c) {
        rests(c, Check.talking("M10E010E010"), 0, 1, 1, 44);
        rests(c, Check.talking("M10E012E012"), 0, 1, 3, 4);
        rests(c, Check.talking("M20E010E010"), 0, 1, 2, 4);
    }

    static void promise24_theFirstOneIsTenTimesTheOneAndTheOther(Check c) {
        MustardTreaty x = Check.talking("M90E090E991");
        rests(c, x, 0, 1, 4, 1);
        rests(c, x, 1, 0, 4, 10);
    }

    static void promise24_theHeatIs1LessEachTime(Check c) {
        // PAIN 2, 1, 0, 0 is 3 behind two BITES and all later ones; with 2 each time it would be 4, like signing.
        rests(c, Check.talking("M20E090E991"), 0, 1, 1, 4);
        // PAIN 3, 2 is 5 behind two BITES; 3 behind one.
        rests(c, Check.talking("M50E290E991"), 0, 1, 3, 2);
    }

    static void promise24_tearsAndWhoEatsAreSetAside(Check c) {
        MustardTreaty x = Check.talking("M50E010E991");
        x.bite();
        c.due("who EATS", x.about(4), 2);
        rests(c, x, 0, 1, 4, 1);
    }

    static void promise24_nothingIsChanged(Check c) {
        Edges.asks(c, "rests(0, 1, 0)", x -> x.rests(0, 1, 0));
        Edges.asks(c, "rests(3, 1, 1)", x -> x.rests(3, 1, 1));
    }

    // ---- 25: chance

    private static void chance(Check c, MustardTreaty x, int[] asked, int above, int below) {
        String call = "chance(" + asked[0] + ", " + asked[1] + ", " + asked[2];
        c.due(call + ", true)", x.chance(asked[0], asked[1], asked[2], true), above);
        c.due(call + ", false)", x.chance(asked[0], asked[1], asked[2], false), below);
    }

    private static int[] of(int envoy, int n, int x) {
        return new int[] {envoy, n, x};
    }

    static void promise25_onlyEnvoysThatAreThereAreKnown(Check c) {
        Edges.onlyEnvoysThere(c, (x, envoy) -> x.chance(envoy, 1, 0, true));
    }

    static void promise25_bitesAre1To6(Check c) {
        MustardTreaty x = Check.talking("M00E010");
        int[] bad = {0, 7, -1, Edges.MIN, Edges.MAX};
        for (int n : bad) {
            chance(c, x, of(0, n, 5), BAD, BAD);
        }
        chance(c, x, of(0, 1, 5), 1, 1);
        chance(c, x, of(0, 6, 5), 1, 1);
    }

    static void promise25_tenthsAre0To10(Check c) {
        MustardTreaty x = Check.talking("M90E010");
        int[] bad = {-1, 11, Edges.MIN, Edges.MAX};
        for (int tenths : bad) {
            chance(c, x, of(0, 1, tenths), BAD, BAD);
        }
        chance(c, x, of(0, 1, 0), 0, 1);
        chance(c, x, of(0, 1, 1), 1, 10);
        chance(c, x, of(0, 1, 9), 9, 10);
        chance(c, x, of(0, 1, 10), 1, 1);
    }

    static void promise25_unknownIsToldAheadOfBad(Check c) {
        MustardTreaty x = Check.talking("M00E010");
        chance(c, x, of(1, 0, 0), UNKNOWN, UNKNOWN);
        chance(c, x, of(1, 1, 11), UNKNOWN, UNKNOWN);
        chance(c, x, of(-1, 7, -1), UNKNOWN, UNKNOWN);
    }

    static void promise25_whatIsRefusedChangesNothing(Check c) {
        Edges.refused(c, UNKNOWN, "chance(4, 1, 1, true)", x -> x.chance(4, 1, 1, true));
        Edges.refused(c, BAD, "chance(0, 0, 1, true)", x -> x.chance(0, 0, 1, true));
        Edges.refused(c, BAD, "chance(0, 7, 1, true)", x -> x.chance(0, 7, 1, true));
        Edges.refused(c, BAD, "chance(0, 1, -1, true)", x -> x.chance(0, 1, -1, true));
        Edges.refused(c, BAD, "chance(0, 1, 11, true)", x -> x.chance(0, 1, 11, true));
    }

    static void promise25_whoDoesNotEatHas0Over1(Check c) {
        for (int n = 1; n <= 6; n++) {
            for (int tenths = 0; tenths <= 10; tenths++) {
                chance(c, Edges.over(), of(0, n, tenths), 0, 1);
            }
        }
    }

    static void promise25_badIsToldForOneThatDoesNotEatToo(Check c) {
        chance(c, Edges.over(), of(0, 0, 0), BAD, BAD);
        chance(c, Edges.over(), of(0, 7, 0), BAD, BAD);
        chance(c, Edges.over(), of(0, 1, 11), BAD, BAD);
    }

    static void promise25_twiceTheWitsStopsAndOneLessDoesNot(Check c) {
        chance(c, Check.talking("M10E010"), of(0, 1, 0), 1, 1);
        chance(c, Check.talking("M20E010"), of(0, 1, 0), 0, 1);
        // 3, 2, 1 make just 6: one sneeze of three saves it.
        chance(c, Check.talking("M30E030"), of(0, 2, 0), 1, 1);
        chance(c, Check.talking("M30E030"), of(0, 3, 0), 0, 1);
        chance(c, Check.talking("M30E030"), of(0, 3, 5), 7, 8);
        chance(c, Check.talking("M30E040"), of(0, 6, 0), 1, 1);
    }

    static void promise25_itSneezesInEachBiteByItself(Check c) {
        MustardTreaty x = Check.talking("M90E010");
        int[] below = {10, 100, 1000, 10000, 100000, 1000000};
        int[] above = {3, 9, 27, 81, 243, 729};
        for (int n = 1; n <= 6; n++) {
            chance(c, x, of(0, n, 3), above[n - 1], below[n - 1]);
        }
    }

    static void promise25_theHeatIs1LessEachTimeAnd0AtLeast(Check c) {
        // PAIN 2, 1, then none: only the first BITE stops it.
        for (int n = 1; n <= 6; n++) {
            chance(c, Check.talking("M20E010"), of(0, n, 3), 3, 10);
        }
        // PAIN 1, then none.
        chance(c, Check.talking("M10E010"), of(0, 6, 0), 1, 1);
    }

    static void promise25_tearsThatAreThereCount(Check c) {
        MustardTreaty x = Check.talking("M30E030");
        x.bite();
        chance(c, x, of(0, 1, 0), 1, 1);
        chance(c, x, of(0, 2, 0), 0, 1);
        chance(c, x, of(0, 2, 5), 3, 4);
    }

    static void promise25_leastTerms(Check c) {
        MustardTreaty x = Check.talking("M90E010");
        chance(c, x, of(0, 1, 2), 1, 5);
        chance(c, x, of(0, 1, 5), 1, 2);
        chance(c, x, of(0, 6, 5), 1, 64);
        chance(c, x, of(0, 6, 2), 1, 15625);
        chance(c, x, of(0, 6, 9), 531441, 1000000);
        chance(c, x, of(0, 6, 10), 1, 1);
        chance(c, x, of(0, 6, 0), 0, 1);
    }

    static void promise25_nothingIsChanged(Check c) {
        for (int e = 0; e <= 3; e++) {
            int envoy = e;
            Edges.asks(c, "chance(" + e + ", 6, 3, true)", x -> x.chance(envoy, 6, 3, true));
            Edges.asks(c, "chance(" + e + ", 6, 3, false)", x -> x.chance(envoy, 6, 3, false));
        }
    }

    // ---- 26: seed

    static void promise26_itWas0AtFirst(Check c) {
        MustardTreaty x = new MustardTreaty();
        c.due("seed(0)", x.seed(0), 0);
        c.due("seed(1)", x.seed(1), 0);
        c.due("seed(2)", x.seed(2), 1);
    }

    static void promise26_everyLongCanBeTheSeed(Check c) {
        long[] seeds = {Long.MAX_VALUE, Long.MIN_VALUE, -1, 1, 1L << 32, -(1L << 32), 0xffffffffL, -9, -2, 0};
        MustardTreaty x = new MustardTreaty();
        long was = 0;
        for (long v : seeds) {
            c.due("seed(" + v + ")", x.seed(v), was);
            was = v;
        }
        c.due("seed(0) at last", x.seed(0), was);
    }

    static void promise26_onlyTheSeedIsChanged(Check c) {
        MustardTreaty x = Edges.busy();
        c.due("seed(5)", x.seed(5), 12345);
        c.due("seed(12345)", x.seed(12345), 5);
        c.holds("all else is as it was", Edges.wholeOf(x).equals(Edges.wholeOf(Edges.busy())));
    }

    static void promise26_onlyTalksGoOnFromIt(Check c) {
        MustardTreaty x = Edges.busy();
        x.bite();
        x.best(5, true);
        x.chance(1, 6, 3, true);
        x.undo();
        x.keep(0);
        x.again(0);
        x.talk();
        x.talks(0);
        c.due("seed(0)", x.seed(0), 12345);
    }

    // ---- 27: talks

    private static BigInteger next(BigInteger x) {
        return x.multiply(TIMES).add(MORE).mod(WHOLE);
    }

    private static BigInteger unsigned(long v) {
        return BigInteger.valueOf(v).mod(WHOLE);
    }

    /** What is left of the upper 31 of 64 bits by 12. */
    private static int drawn(BigInteger x) {
        return x.shiftRight(33).mod(BigInteger.valueOf(12)).intValue();
    }

    private static long seedWhere(LongPredicate so) {
        for (long v = 0; v < 1000000; v++) {
            if (so.test(v)) {
                return v;
            }
        }
        throw new IllegalStateException("no such seed");
    }

    /** A seed that draws this one first. */
    private static long drawing(int figure) {
        return seedWhere(v -> drawn(next(unsigned(v))) == figure);
    }

    /** A seed that draws this one first, and CLAUSE 0 behind it. */
    private static long drawingThen0(int figure) {
        return seedWhere(v -> drawn(next(unsigned(v))) == figure && drawn(next(next(unsigned(v)))) == 0);
    }

    private static int talks(String talk, long seed, int m) {
        MustardTreaty x = Check.talking(talk);
        x.seed(seed);
        return x.talks(m);
    }

    static void promise27_timesAre1To30(Check c) {
        MustardTreaty x = Check.talking("M00");
        int[] bad = {0, 31, -1, Edges.MIN, Edges.MAX};
        for (int m : bad) {
            c.due("talks(" + m + ")", x.talks(m), BAD);
        }
        c.due("talks(1)", x.talks(1), 0);
        c.due("talks(30)", x.talks(30), 0);
    }

    static void promise27_whatIsRefusedChangesNothing(Check c) {
        Edges.refused(c, BAD, "talks(0)", x -> x.talks(0));
        Edges.refused(c, BAD, "talks(31)", x -> x.talks(31));
        Edges.refused(c, BAD, "talks(-1)", x -> x.talks(-1));
    }

    static void promise27_theSeedGoesOnJustSoOften(Check c) {
        BigInteger want = BigInteger.ZERO;
        MustardTreaty x = new MustardTreaty();
        for (int m = 1; m <= 30; m++) {
            x.talks(m);
            for (int i = 0; i < m; i++) {
                want = next(want);
            }
            long now = x.seed(0);
            c.due("THE SEED behind talks(" + m + ")", now, want.longValue());
            x.seed(now);
        }
    }

    static void promise27_theSeedWrapsAround(Check c) {
        long[] seeds = {Long.MAX_VALUE, Long.MIN_VALUE, -1, 1, 0};
        for (long v : seeds) {
            MustardTreaty x = new MustardTreaty();
            x.seed(v);
            x.talks(1);
            c.due("THE SEED behind " + v, x.seed(0), next(unsigned(v)).longValue());
        }
    }

    static void promise27_theUpper31BitsHaveNoSign(Check c) {
        long v = seedWhere(s -> next(unsigned(s)).testBit(63) && drawn(next(unsigned(s))) == 0
            && next(unsigned(s)).shiftRight(32).mod(BigInteger.valueOf(12)).intValue() != 0);
        c.due("talks(1) by " + v, talks("M00E990C400", v, 1), 4);
        long other = seedWhere(s -> !next(unsigned(s)).testBit(63) && drawn(next(unsigned(s))) == 0);
        c.due("talks(1) by " + other, talks("M00E990C400", other, 1), 4);
    }

    static void promise27_0To4AreClauses(Check c) {
        int[] worth = {1, 2, 3, 4, 5};
        for (int clause = 0; clause <= 4; clause++) {
            c.due("by " + clause, talks("M10E990C100C200C300C400C410", drawing(clause), 1), worth[clause]);
        }
    }

    static void promise27_aClauseThatIsNotThereIsNotSaid(Check c) {
        for (int clause = 0; clause <= 4; clause++) {
            c.due("by " + clause, talks("M00E990", drawing(clause), 1), 0);
            c.due("by 4 with four", talks("M00E990C100C100C100C100", drawing(4), 1), 0);
        }
    }

    static void promise27_aClauseIsSaidOnlyIfItCanBe(Check c) {
        c.due("too cold by 1", talks("M80E990C190", drawing(0), 1), 0);
        c.due("just hot enough", talks("M90E990C190", drawing(0), 1), 10);
        c.due("too long by 1", talks("M30E990C400", drawing(0), 1), 0);
        c.due("just short enough", talks("M20E990C400", drawing(0), 1), 4);
        MustardTreaty over = Edges.over();
        over.seed(drawing(0));
        c.due("its ENVOY EATS no more", over.talks(1), 0);
    }

    static void promise27_5PutsSeedInIfThereIsSome(Check c) {
        c.due("the last SEED", talks("M01E990C120", drawingThen0(5), 2), 3);
        c.due("no SEED", talks("M00E990C120", drawingThen0(5), 2), 0);
        c.due("no BITE by it", talks("M10E990C110", drawingThen0(5), 2), 2);
        c.due("9 at most", talks("M81E990C190", drawingThen0(5), 2), 10);
    }

    static void promise27_6To11AreBites(Check c) {
        for (int figure = 6; figure <= 11; figure++) {
            c.due("a BITE cools by " + figure, talks("M39E990C400", drawingThen0(figure), 2), 4);
            c.due("too cold then", talks("M39E990C130", drawingThen0(figure), 2), 0);
            c.due("a BITE stops by " + figure, talks("M20E010C100", drawingThen0(figure), 2), 0);
            c.due("a BITE does not stop", talks("M10E010C100", drawingThen0(figure), 2), 1);
        }
    }

    static void promise27_onlyWhatIsBoundAnewCounts(Check c) {
        MustardTreaty x = Check.talking("M00E990C100C200");
        x.say(0);
        x.seed(drawing(0));
        c.due("BOUND already", x.talks(1), 0);
        x.seed(drawing(1));
        c.due("anew", x.talks(1), 2);
        c.due("nothing stays BOUND by it", x.about(5), 1);
    }

    static void promise27_nobodyNeedEat(Check c) {
        MustardTreaty over = Edges.over();
        c.due("nobody EATS", over.talks(30), 0);
        c.due("nobody is there", new MustardTreaty().talks(30), 0);
    }

    static void promise27_eachClauseIsBoundOnceInAll30(Check c) {
        for (long v = -50; v <= 50; v++) {
            for (int m = 1; m <= 30; m += 29) {
                BigInteger x = unsigned(v);
                Set<Integer> said = new HashSet<>();
                for (int i = 0; i < m; i++) {
                    x = next(x);
                    said.add(drawn(x));
                }
                said.removeIf(figure -> figure > 4);
                c.due("talks(" + m + ") by " + v, talks(Edges.LONGEST, v, m), said.size());
            }
        }
    }

    static void promise27_nothingChangesButTheSeed(Check c) {
        for (int m = 1; m <= 30; m++) {
            MustardTreaty x = Edges.busy();
            x.talks(m);
            c.holds("THE SEED is another one", x.seed(12345) != 12345);
            c.holds("talks(" + m + ") changes nothing else", Edges.wholeOf(x).equals(Edges.wholeOf(Edges.busy())));
        }
    }
}

/** Boundary cases of promises 14 to 20: how long it lasts, what can be said, what is best, shares. */
public final class HowLongEdgesTest {
    private static final int UNKNOWN = -1, BAD = -2, LATE = -3, NONE = -9;

    public static void main(String[] args) {
        Edges.run(HowLongEdgesTest.class, 14, 20);
    }

    private static MustardTreaty bitten(String talk, int bites) {
        MustardTreaty x = Check.talking(talk);
        for (int i = 0; i < bites; i++) {
            x.bite();
        }
        return x;
    }

    /** 1 TEAR of 16 is there, and the pot gives 5, 4, 3, 2, 1 more: the last warm BITE just stops it. */
    private static MustardTreaty stoppedAtLast() {
        MustardTreaty x = bitten("M23E180C100", 2);
        x.spice();
        x.spice();
        x.spice();
        return x;
    }

    // ---- 14: lasts

    static void promise14_nobodyIsThereFor0(Check c) {
        c.due("a new object", new MustardTreaty().lasts(), 0);
        c.due("M90", Check.talking("M90").lasts(), 0);
    }

    static void promise14_nobodyEatsFor0(Check c) {
        c.due("lasts()", Edges.over().lasts(), 0);
    }

    static void promise14_oneBiteEndsIt(Check c) {
        c.due("all stop at once", Check.talking("M20E010E010E010E010").lasts(), 1);
        c.due("one TEAR is one too few", Check.talking("M10E010").lasts(), NONE);
    }

    static void promise14_theLastOneCounts(Check c) {
        c.due("1 and 3", Check.talking("M90E010E090").lasts(), 3);
        c.due("3 and 1", Check.talking("M90E090E010").lasts(), 3);
        c.due("1 and never", Check.talking("M90E010E011").lasts(), NONE);
    }

    static void promise14_allTearsThereAreJustEnoughOrOneTooFew(Check c) {
        c.due("6 of 6", Check.talking("M30E030").lasts(), 3);
        c.due("6 of 8", Check.talking("M30E040").lasts(), NONE);
        c.due("10 of 10", Check.talking("M40E050").lasts(), 4);
        c.due("10 of 12", Check.talking("M40E060").lasts(), NONE);
        c.due("15 of 14", Check.talking("M50E070").lasts(), 4);
        c.due("15 of 16", Check.talking("M50E080").lasts(), NONE);
        c.due("16 of 16, with one there", stoppedAtLast().lasts(), 5);
    }

    static void promise14_itDoesNotEndIn60WhenThePotIsCold(Check c) {
        c.due("a cold pot", Check.talking("M00E010").lasts(), NONE);
        c.due("NUMB", Check.talking("M90E011").lasts(), NONE);
        c.due("a PALATE of 9", Check.talking("M90E910").lasts(), NONE);
        c.due("BEER by 1", Check.talking("M90E813").lasts(), NONE);
        c.due("WEEPER by 1", Check.talking("M90E812").lasts(), 1);
    }

    static void promise14_seedInStoreIsNotPutIn(Check c) {
        c.due("lasts()", Check.talking("M09E010").lasts(), NONE);
    }

    static void promise14_nothingIsChanged(Check c) {
        Edges.asks(c, "lasts()", x -> x.lasts());
    }

    // ---- 15: bears

    static void promise15_onlyEnvoysThatAreThereAreKnown(Check c) {
        Edges.onlyEnvoysThere(c, (x, envoy) -> x.bears(envoy));
    }

    static void promise15_itIsLateForOneThatEatsNoMore(Check c) {
        MustardTreaty x = bitten("M90E010E090", 1);
        c.due("bears(0)", x.bears(0), LATE);
        c.due("bears(1)", x.bears(1), 2);
        c.due("bears(2)", x.bears(2), UNKNOWN);
    }

    static void promise15_allTearsThereAreJustEnoughOrOneTooFew(Check c) {
        MustardTreaty x = Check.talking("M30E030E040E032E042");
        c.due("PLAIN, 6 of 6", x.bears(0), 3);
        c.due("PLAIN, 6 of 8", x.bears(1), NONE);
        c.due("WEEPER, 7 of 6", x.bears(2), 2);
        c.due("WEEPER, 9 of 8", x.bears(3), 3);
        c.due("16 of 16, with one there", stoppedAtLast().bears(0), 5);
        c.due("BEER, 6 of 6", Check.talking("M40E033").bears(0), 3);
        c.due("BEER, 6 of 8", Check.talking("M40E043").bears(0), NONE);
    }

    static void promise15_itBearsAllWithoutPain(Check c) {
        MustardTreaty x = Check.talking("M90E011E910E813E812");
        c.due("NUMB", x.bears(0), NONE);
        c.due("a PALATE of 9", x.bears(1), NONE);
        c.due("BEER by 1", x.bears(2), NONE);
        c.due("WEEPER by 1", x.bears(3), 1);
    }

    static void promise15_whatIsRefusedChangesNothing(Check c) {
        Edges.refused(c, UNKNOWN, "bears(-1)", x -> x.bears(-1));
        Edges.refused(c, UNKNOWN, "bears(4)", x -> x.bears(4));
        Edges.refused(c, LATE, "bears(0)", x -> x.bears(0));
    }

    static void promise15_nothingIsChanged(Check c) {
        Edges.asks(c, "bears(1)", x -> x.bears(1));
        Edges.asks(c, "bears(2)", x -> x.bears(2));
    }

    // ---- 16: best

    private static void best(Check c, MustardTreaty x, int n, int worth, int row) {
        c.due("best(" + n + ", false)", x.best(n, false), worth);
        c.due("best(" + n + ", true)", x.best(n, true), row);
    }

    static void promise16_oneTurnIsTheLeast(Check c) {
        MustardTreaty x = Check.talking(Edges.LONGEST);
        best(c, x, 1, 1, 11);
        best(c, x, 0, BAD, BAD);
        best(c, x, -1, BAD, BAD);
        best(c, x, Edges.MIN, BAD, BAD);
    }

    static void promise16_fiveTurnsAreTheMost(Check c) {
        MustardTreaty x = Check.talking(Edges.LONGEST);
        best(c, x, 5, 5, 112345);
        best(c, x, 6, BAD, BAD);
        best(c, x, Edges.MAX, BAD, BAD);
    }

    static void promise16_whatIsRefusedChangesNothing(Check c) {
        Edges.refused(c, BAD, "best(0, false)", x -> x.best(0, false));
        Edges.refused(c, BAD, "best(6, true)", x -> x.best(6, true));
    }

    static void promise16_withoutClausesAllAreBites(Check c) {
        int[] rows = {10, 100, 1000, 10000, 100000};
        for (int n = 1; n <= 5; n++) {
            best(c, new MustardTreaty(), n, 0, rows[n - 1]);
            best(c, Check.talking("M90E010"), n, 0, rows[n - 1]);
        }
    }

    static void promise16_aBiteCanBeTakenWhenNobodyEats(Check c) {
        best(c, Edges.over(), 5, 0, 100000);
        // Behind the only CLAUSE that can be SAID, nobody is left, and turns are still taken.
        best(c, Check.talking("M90E010C100C400"), 5, 1, 110000);
    }

    static void promise16_ofLikeRowsTheLeastNumberIsToldFirst(Check c) {
        MustardTreaty x = Check.talking("M00E990C100");
        best(c, x, 1, 1, 11);
        best(c, x, 2, 1, 101);
        best(c, x, 5, 1, 100001);
    }

    static void promise16_ofLikeClausesTheFirstIsTold(Check c) {
        MustardTreaty x = Check.talking("M00E990C100C100C100");
        best(c, x, 1, 1, 11);
        best(c, x, 2, 2, 112);
        best(c, x, 4, 3, 10123);
        best(c, Check.talking("M20E990C120C210C300"), 1, 3, 11);
    }

    static void promise16_theLastClauseHasTheFigure5(Check c) {
        best(c, Check.talking("M20E990C100C100C100C100C200"), 1, 2, 15);
    }

    static void promise16_theHeatIsJustEnoughOrTooLittleAfterABite(Check c) {
        best(c, Check.talking("M60E990C160"), 2, 7, 110);
        best(c, Check.talking("M70E990C160"), 2, 7, 101);
        best(c, Check.talking("M50E990C160"), 2, 0, 100);
    }

    static void promise16_aBiteMakesRoomForWords(Check c) {
        best(c, Check.talking("M30E990C400"), 1, 0, 10);
        best(c, Check.talking("M30E990C400"), 2, 4, 101);
        best(c, Check.talking("M70E990C400"), 5, 0, 100000);
        best(c, Check.talking("M60E990C400"), 5, 4, 100001);
    }

    static void promise16_whoStopsByABiteSaysNoMore(Check c) {
        best(c, Check.talking("M20E010C100"), 2, 1, 110);
        best(c, Check.talking("M10E010C100"), 2, 1, 101);
    }

    static void promise16_onlyWhatIsBoundAnewCounts(Check c) {
        MustardTreaty x = Check.talking(Edges.LONGEST);
        x.say(0);
        x.say(3);
        best(c, x, 5, 3, 100235);
        x.say(1);
        x.say(2);
        x.say(4);
        best(c, x, 5, 0, 100000);
    }

    static void promise16_whatIsSaidCoolsNoPot(Check c) {
        best(c, Check.talking("M60E990C160C160"), 2, 14, 112);
        best(c, Check.talking("M90E010C190C190C190"), 3, 30, 1123);
    }

    static void promise16_aLaterClauseComesFirstWhereItMust(Check c) {
        best(c, Check.talking("M30E990C400C130"), 2, 4, 101);
        best(c, Check.talking("M30E990C400C130"), 3, 8, 1201);
        best(c, Check.talking("M30E990C400C130C230"), 4, 13, 12301);
    }

    static void promise16_seedInStoreIsNotPutIn(Check c) {
        best(c, Check.talking("M09E990C110"), 5, 0, 100000);
    }

    static void promise16_nothingIsChanged(Check c) {
        for (int n = 1; n <= 5; n++) {
            int turns = n;
            Edges.asks(c, "best(" + n + ", false)", x -> x.best(turns, false));
            Edges.asks(c, "best(" + n + ", true)", x -> x.best(turns, true));
        }
    }

    // ---- 17: hot

    static void promise17_onlyClausesThatAreThereAreKnown(Check c) {
        Edges.onlyClausesThere(c, (x, clause) -> x.hot(clause, 0));
    }

    static void promise17_bitesAre0To9(Check c) {
        MustardTreaty x = Check.talking(Edges.LONGEST);
        c.due("hot(0, 0)", x.hot(0, 0), 1023);
        c.due("hot(0, -1)", x.hot(0, -1), BAD);
        c.due("hot(0, MIN)", x.hot(0, Edges.MIN), BAD);
        c.due("hot(0, 9)", x.hot(0, 9), 1023);
        c.due("hot(0, 10)", x.hot(0, 10), BAD);
        c.due("hot(0, MAX)", x.hot(0, Edges.MAX), BAD);
    }

    static void promise17_unknownIsToldAheadOfBad(Check c) {
        MustardTreaty x = Check.talking(Edges.LONGEST);
        c.due("hot(5, 10)", x.hot(5, 10), UNKNOWN);
        c.due("hot(-1, -1)", x.hot(-1, -1), UNKNOWN);
    }

    static void promise17_aBoundOneIs0ButBadIsToldAhead(Check c) {
        MustardTreaty x = Check.talking(Edges.LONGEST);
        x.say(4);
        for (int n = 0; n <= 9; n++) {
            c.due("hot(4, " + n + ")", x.hot(4, n), 0);
        }
        c.due("hot(4, 10)", x.hot(4, 10), BAD);
        c.due("hot(4, -1)", x.hot(4, -1), BAD);
        c.due("another one", x.hot(3, 0), 1023);
    }

    static void promise17_whatIsRefusedChangesNothing(Check c) {
        Edges.refused(c, UNKNOWN, "hot(5, 0)", x -> x.hot(5, 0));
        Edges.refused(c, BAD, "hot(0, 10)", x -> x.hot(0, 10));
        Edges.refused(c, BAD, "hot(0, -1)", x -> x.hot(0, -1));
    }

    static void promise17_heatsAreTheBits0To9(Check c) {
        MustardTreaty x = Check.talking("M50E991C190C400C100");
        c.due("only 9", x.hot(0, 0), 512);
        c.due("0, 1, 2", x.hot(1, 0), 7);
        c.due("all", x.hot(2, 0), 1023);
    }

    static void promise17_theHottestMustCoolInTime(Check c) {
        MustardTreaty x = Check.talking("M00E991C400C110C190");
        c.due("4 words behind 6", x.hot(0, 6), 511);
        c.due("4 words behind 7", x.hot(0, 7), 1023);
        c.due("1 behind 8", x.hot(1, 8), 512);
        c.due("1 behind 9", x.hot(1, 9), 0);
        c.due("9 behind 1", x.hot(2, 1), 0);
    }

    static void promise17_heatIs0AtLeast(Check c) {
        MustardTreaty x = Check.talking("M00E991C100");
        for (int n = 0; n <= 9; n++) {
            c.due("hot(0, " + n + ")", x.hot(0, n), 1023);
        }
    }

    static void promise17_itsEnvoyJustEatsOrStops(Check c) {
        MustardTreaty x = Check.talking("M90E010C100");
        c.due("1 TEAR of 2", x.hot(0, 1), 0b11);
        c.due("behind 9", x.hot(0, 9), 0b11);
        MustardTreaty wept = bitten("M10E010C100", 1);
        c.due("1 TEAR was there", wept.hot(0, 1), 0b01);
    }

    static void promise17_theHeatNowIsSetAside(Check c) {
        for (int heat = 0; heat <= 9; heat++) {
            c.due("hot(0, 1) at " + heat, Check.talking("M" + heat + "0E010C100").hot(0, 1), 0b11);
        }
    }

    static void promise17_oneThatEatsNoMoreSaysNothing(Check c) {
        c.due("hot(0, 0)", Edges.over().hot(0, 0), 0);
    }

    static void promise17_nothingIsChanged(Check c) {
        for (int n = 0; n <= 9; n++) {
            int bites = n;
            Edges.asks(c, "hot(3, " + n + ")", x -> x.hot(3, bites));
        }
    }

    // ---- 18: spiceFor

    static void promise18_onlyClausesThatAreThereAreKnown(Check c) {
        Edges.onlyClausesThere(c, (x, clause) -> x.spiceFor(clause));
    }

    static void promise18_aBoundOneIsLate(Check c) {
        MustardTreaty x = Check.talking(Edges.LONGEST);
        x.say(4);
        c.due("spiceFor(4)", x.spiceFor(4), LATE);
        c.due("spiceFor(3)", x.spiceFor(3), 0);
        c.due("spiceFor(5)", x.spiceFor(5), UNKNOWN);
    }

    static void promise18_whatIsRefusedChangesNothing(Check c) {
        Edges.refused(c, UNKNOWN, "spiceFor(-1)", x -> x.spiceFor(-1));
        Edges.refused(c, UNKNOWN, "spiceFor(5)", x -> x.spiceFor(5));
        Edges.refused(c, LATE, "spiceFor(1)", x -> x.spiceFor(1));
    }

    static void promise18_withoutSeedItIs0OrNone(Check c) {
        MustardTreaty x = Check.talking("M50E990C150C160");
        c.due("it can be SAID", x.spiceFor(0), 0);
        c.due("it can not", x.spiceFor(1), NONE);
    }

    static void promise18_theLastSeedIsJustEnoughOrNot(Check c) {
        c.due("1 of 1", Check.talking("M01E990C120").spiceFor(0), 1);
        c.due("2 for 1", Check.talking("M01E990C130").spiceFor(0), NONE);
        c.due("4 of 4", Check.talking("M04E990C180").spiceFor(0), 4);
        c.due("5 for 4", Check.talking("M04E990C190").spiceFor(0), NONE);
        c.due("5 of 9", Check.talking("M09E990C190").spiceFor(0), 5);
    }

    static void promise18_heatIs9AtMost(Check c) {
        c.due("from 8", Check.talking("M81E990C190").spiceFor(0), 1);
        c.due("from 7", Check.talking("M71E990C190").spiceFor(0), 1);
        c.due("2 words from 8", Check.talking("M89E990C290").spiceFor(0), NONE);
    }

    static void promise18_whatIsTooLongGetsNoShorter(Check c) {
        c.due("4 words at 2", Check.talking("M09E990C420").spiceFor(0), 1);
        c.due("4 words at 3", Check.talking("M09E990C430").spiceFor(0), NONE);
        c.due("a pot too hot", Check.talking("M39E990C400").spiceFor(0), NONE);
    }

    static void promise18_oneThatEatsNoMoreSaysNothing(Check c) {
        c.due("spiceFor(0)", Edges.over().spiceFor(0), NONE);
        c.due("spiceFor(0) with SEED", bitten("M99E010C100", 1).spiceFor(0), NONE);
    }

    static void promise18_nothingIsChanged(Check c) {
        Edges.asks(c, "spiceFor(0)", x -> x.spiceFor(0));
        Edges.asks(c, "spiceFor(2)", x -> x.spiceFor(2));
    }

    // ---- 19: judge

    private static void judged(Check c, MustardTreaty x, int n, int row, int want) {
        c.due("judge(" + n + ", " + row + ")", x.judge(n, row), want);
    }

    static void promise19_oneTurnIsTheLeast(Check c) {
        MustardTreaty x = Check.talking("M00E990C100");
        judged(c, x, 1, 0, NONE);
        judged(c, x, 0, 0, BAD);
        judged(c, x, -1, 0, BAD);
        judged(c, x, Edges.MIN, 0, BAD);
    }

    static void promise19_sixTurnsAreTheMost(Check c) {
        MustardTreaty x = Check.talking("M00E990C100");
        judged(c, x, 6, 0, NONE);
        judged(c, x, 7, 0, BAD);
        judged(c, x, 7, 1111111, BAD);
        judged(c, x, Edges.MAX, 0, BAD);
    }

    static void promise19_aRowHasNoMoreThanItsFigures(Check c) {
        MustardTreaty x = Check.talking("M00E990C100");
        int beyond = 10;
        for (int n = 1; n <= 6; n++) {
            judged(c, x, n, beyond, BAD);
            judged(c, x, n, beyond / 9 * 7, NONE);
            judged(c, x, n, -1, BAD);
            judged(c, x, n, Edges.MIN, BAD);
            judged(c, x, n, Edges.MAX, BAD);
            beyond *= 10;
        }
    }

    static void promise19_aFigureIs7AtMost(Check c) {
        MustardTreaty x = Check.talking("M00E990C100");
        int unit = 1;
        for (int place = 5; place >= 0; place--) {
            judged(c, x, 6, 777777, NONE);
            judged(c, x, 6, 777777 + unit, BAD);
            judged(c, x, 6, 777777 + 2 * unit, BAD);
            judged(c, x, 6, 8 * unit, BAD);
            unit *= 10;
        }
        judged(c, x, 1, 8, BAD);
        judged(c, x, 1, 9, BAD);
    }

    static void promise19_aBadRowIsBadThoughItsFirstTurnCanNotBe(Check c) {
        MustardTreaty x = Check.talking("M00E990C100");
        judged(c, x, 2, 58, BAD);
        judged(c, x, 2, 57, 0);
    }

    static void promise19_whatIsRefusedChangesNothing(Check c) {
        Edges.refused(c, BAD, "judge(0, 0)", x -> x.judge(0, 0));
        Edges.refused(c, BAD, "judge(7, 0)", x -> x.judge(7, 0));
        Edges.refused(c, BAD, "judge(2, 8)", x -> x.judge(2, 8));
        Edges.refused(c, BAD, "judge(2, -1)", x -> x.judge(2, -1));
        Edges.refused(c, BAD, "judge(2, 100)", x -> x.judge(2, 100));
    }

    static void promise19_theFirstPlaceIs0AndTheLastIs5(Check c) {
        MustardTreaty x = Check.talking("M00E990C100");
        judged(c, x, 6, 577777, 0);
        judged(c, x, 6, 757777, 1);
        judged(c, x, 6, 775777, 2);
        judged(c, x, 6, 777577, 3);
        judged(c, x, 6, 777757, 4);
        judged(c, x, 6, 777775, 5);
        judged(c, x, 6, 755555, 1);
    }

    static void promise19_figuresThatAreLeftOutAreBites(Check c) {
        MustardTreaty x = Check.talking("M20E010C100");
        judged(c, x, 1, 7, NONE);
        judged(c, x, 2, 7, NONE);
        judged(c, x, 3, 7, 1);
    }

    static void promise19_aBiteCanBeWhileSomebodyEats(Check c) {
        judged(c, new MustardTreaty(), 1, 0, 0);
        judged(c, Edges.over(), 1, 0, 0);
        judged(c, Check.talking("M20E010"), 2, 0, 1);
        judged(c, Check.talking("M10E010"), 6, 0, NONE);
        judged(c, Check.talking("M20E010E010E010E011"), 6, 0, NONE);
    }

    static void promise19_aClauseThatIsNotThereCanNotBe(Check c) {
        MustardTreaty five = Check.talking(Edges.LONGEST);
        judged(c, five, 5, 12345, NONE);
        judged(c, five, 6, 123455, 5);
        MustardTreaty four = Check.talking(Edges.LONGEST.substring(0, 35));
        judged(c, four, 5, 12345, 4);
        judged(c, new MustardTreaty(), 1, 1, 0);
    }

    static void promise19_aClauseCanBeSaidOnce(Check c) {
        MustardTreaty x = Check.talking(Edges.LONGEST);
        judged(c, x, 2, 11, 1);
        x.say(0);
        judged(c, x, 1, 1, 0);
    }

    static void promise19_seedCanBePutInWhileThereIsSome(Check c) {
        judged(c, new MustardTreaty(), 1, 6, 0);
        judged(c, Check.talking("M01"), 2, 66, 1);
        judged(c, Check.talking("M05"), 6, 666666, 5);
        judged(c, Check.talking("M06"), 6, 666666, NONE);
    }

    static void promise19_seedHeatsThePot(Check c) {
        judged(c, Check.talking("M02E990C120"), 2, 61, NONE);
        judged(c, Check.talking("M02E990C130"), 2, 61, 1);
        judged(c, Check.talking("M81E990C190"), 2, 61, NONE);
        judged(c, Check.talking("M21E990C400"), 2, 61, 1);
    }

    static void promise19_nothingCanAlwaysBe(Check c) {
        judged(c, new MustardTreaty(), 6, 777777, NONE);
        judged(c, Edges.over(), 6, 777777, NONE);
        judged(c, Check.talking("M20E990C120"), 6, 777771, NONE);
    }

    static void promise19_nothingIsChanged(Check c) {
        Edges.asks(c, "judge(6, 600000)", x -> x.judge(6, 600000));
        Edges.asks(c, "judge(4, 6675)", x -> x.judge(4, 6675));
    }

    // ---- 20: share

    private static void share(Check c, MustardTreaty x, int envoy, int above, int below) {
        c.due("share(" + envoy + ", true)", x.share(envoy, true), above);
        c.due("share(" + envoy + ", false)", x.share(envoy, false), below);
    }

    static void promise20_onlyEnvoysThatAreThereAreKnown(Check c) {
        Edges.onlyEnvoysThere(c, (x, envoy) -> x.share(envoy, true));
    }

    static void promise20_whatIsRefusedChangesNothing(Check c) {
        Edges.refused(c, UNKNOWN, "share(-1, true)", x -> x.share(-1, true));
        Edges.refused(c, UNKNOWN, "share(4, false)", x -> x.share(4, false));
    }

    static void promise20_noShareIs0Over1(Check c) {
        share(c, Check.talking("M00E990E990C100"), 1, 0, 1);
        share(c, Check.talking("M90E990C400"), 0, 0, 1);
        share(c, Edges.over(), 0, 0, 1);
    }

    static void promise20_oneAloneHasAll(Check c) {
        share(c, Check.talking("M20E990C120"), 0, 3, 1);
        // Of three only two can be SAID in two turns.
        share(c, Check.talking("M00E990C100C100C100"), 0, 2, 1);
    }

    static void promise20_twoTurnsAreShared(Check c) {
        MustardTreaty x = Check.talking("M00E990E990C100C100C101C101");
        share(c, x, 0, 1, 1);
        share(c, x, 1, 1, 1);
        // 3 alone; the second one adds 1 where a turn is free, and 0 where it is not.
        MustardTreaty y = Check.talking("M00E990E990C200C100C101");
        share(c, y, 0, 5, 2);
        share(c, y, 1, 1, 2);
    }

    static void promise20_fourHave24Orders(Check c) {
        MustardTreaty x = Check.talking(Edges.LONGEST);
        share(c, x, 0, 3, 4);
        for (int e = 1; e <= 3; e++) {
            share(c, x, e, 5, 12);
        }
    }

    static void promise20_leastTerms(Check c) {
        // 12 of 24 orders find a turn free.
        MustardTreaty x = Check.talking(Edges.LONGEST.substring(0, 35));
        for (int e = 0; e <= 3; e++) {
            share(c, x, e, 1, 2);
        }
    }

    static void promise20_clausesOfOthersCanNotBeSaid(Check c) {
        MustardTreaty x = bitten("M20E010E990C100C101", 1);
        share(c, x, 0, 0, 1);
        share(c, x, 1, 1, 1);
    }

    static void promise20_onlyWhatIsBoundAnewCounts(Check c) {
        MustardTreaty x = Check.talking("M00E990E990C100C101");
        x.say(0);
        share(c, x, 0, 0, 1);
        share(c, x, 1, 1, 1);
    }

    static void promise20_nothingIsChanged(Check c) {
        for (int e = 0; e <= 3; e++) {
            int envoy = e;
            Edges.asks(c, "share(" + e + ", true)", x -> x.share(envoy, true));
            Edges.asks(c, "share(" + e + ", false)", x -> x.share(envoy, false));
        }
    }
}

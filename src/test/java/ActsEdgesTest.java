/** Boundary cases of promises 9 to 13: acts, and acts undone. */
public final class ActsEdgesTest {
    private static final int UNKNOWN = -1, LATE = -3;

    public static void main(String[] args) {
        Edges.run(ActsEdgesTest.class, 9, 13);
    }

    private static MustardTreaty bitten(String talk, int bites) {
        MustardTreaty x = Check.talking(talk);
        for (int i = 0; i < bites; i++) {
            x.bite();
        }
        return x;
    }

    // ---- 9: bite

    static void promise09_fourEatAndNobodyDoes(Check c) {
        c.due("all go on", Check.talking("M00E010E010E010E010").bite(), 15);
        c.due("all stop", Check.talking("M20E010E010E010E010").bite(), 0);
        c.due("one goes on", Check.talking("M20E010E010E010E020").bite(), 8);
    }

    static void promise09_itIsLateWhenNobodyIsThere(Check c) {
        c.due("a new object", new MustardTreaty().bite(), LATE);
        c.due("M90", Check.talking("M90").bite(), LATE);
    }

    static void promise09_itIsLateWhenNobodyEats(Check c) {
        MustardTreaty x = Check.talking("M90E010E020");
        c.due("the one stops", x.bite(), 0);
        c.due("nobody EATS", x.bite(), LATE);
    }

    static void promise09_whatIsRefusedChangesNothing(Check c) {
        Edges.changesNothing(c, Edges::over, LATE, "bite()", x -> x.bite());
        Edges.changesNothing(c, () -> Check.talking("M90"), LATE, "bite() of nobody", x -> x.bite());
    }

    static void promise09_twiceTheWitsStopsAndOneLessDoesNot(Check c) {
        c.due("1 of 2", Check.talking("M10E010").bite(), 1);
        c.due("2 of 2", Check.talking("M20E010").bite(), 0);
        c.due("3 of 2", Check.talking("M30E010").bite(), 0);
        c.due("7 of 8", Check.talking("M70E040").bite(), 1);
        c.due("8 of 8", Check.talking("M80E040").bite(), 0);
    }

    static void promise09_twiceTheMostWitsStops(Check c) {
        MustardTreaty short1 = bitten("M90E090", 1);
        c.due("17 of 18", short1.bite(), 1);
        c.due("TEARS", short1.envoy(0, 3), 17);
        MustardTreaty just = bitten("M91E090", 1);
        just.spice();
        c.due("18 of 18", just.bite(), 0);
        c.due("TEARS", just.envoy(0, 3), 18);
    }

    static void promise09_thePainIsAtTheHeatAheadOfTheBite(Check c) {
        MustardTreaty x = bitten("M90E090E092E093E091", 1);
        int[] tears = {9, 10, 8, 0};
        for (int e = 0; e < 4; e++) {
            c.due("TEARS of " + e, x.envoy(e, 3), tears[e]);
        }
        c.due("HEAT", x.about(2), 8);
    }

    static void promise09_heatIs0AtLeast(Check c) {
        MustardTreaty x = bitten("M10E090", 1);
        c.due("HEAT", x.about(2), 0);
        x.bite();
        c.due("HEAT of a cold pot", x.about(2), 0);
        c.due("BITES", x.about(6), 2);
        c.due("TEARS", x.envoy(0, 3), 1);
    }

    static void promise09_whoEatsNoMoreHasNoMoreTears(Check c) {
        MustardTreaty x = bitten("M90E010E991", 3);
        c.due("TEARS", x.envoy(0, 3), 9);
        c.due("who EATS", x.about(4), 2);
    }

    static void promise09_noPainStopsNobody(Check c) {
        MustardTreaty x = Check.talking("M90E011E910");
        for (int i = 0; i < 70; i++) {
            c.due("bite() " + i, x.bite(), 3);
        }
    }

    static void promise09_aBiteIsAnAct(Check c) {
        c.due("ACTS", bitten("M00E010", 1).about(8), 1);
    }

    // ---- 10: say

    static void promise10_onlyClausesThatAreThereAreKnown(Check c) {
        Edges.onlyClausesThere(c, (x, clause) -> x.say(clause));
    }

    static void promise10_allAreBoundOneByOne(Check c) {
        MustardTreaty x = Check.talking(Edges.LONGEST);
        int[] want = {1, 3, 7, 15, 31};
        for (int clause = 0; clause <= 4; clause++) {
            c.due("say(" + clause + ")", x.say(clause), want[clause]);
        }
    }

    static void promise10_itIsLateWhenItIsBound(Check c) {
        MustardTreaty x = Check.talking(Edges.LONGEST);
        x.say(2);
        c.due("say(2) once more", x.say(2), LATE);
        c.due("BOUND", x.about(5), 4);
    }

    static void promise10_itIsLateWhenItsEnvoyEatsNoMore(Check c) {
        MustardTreaty x = bitten("M90E010E991C100C101", 1);
        c.due("of who EATS no more", x.say(0), LATE);
        c.due("of who EATS", x.say(1), 2);
    }

    static void promise10_theHeatIsJustEnoughOrOneTooLittle(Check c) {
        for (int needed = 1; needed <= 9; needed++) {
            String clause = "0E990C1" + needed + "0";
            c.due("just at " + needed, Check.talking("M" + needed + clause).say(0), 1);
            c.due("one less", Check.talking("M" + (needed - 1) + clause).say(0), LATE);
        }
        c.due("0 at 0", Check.talking("M00E990C100").say(0), 1);
        c.due("0 at 9", Check.talking("M90E990C100").say(0), 1);
    }

    static void promise10_itIsJustShortEnoughOrOneTooLong(Check c) {
        int[][] hottest = {{4, 2}, {3, 5}, {2, 8}};
        for (int[] h : hottest) {
            String clause = "0E990C" + h[0] + "00";
            c.due(h[0] + " words at " + h[1], Check.talking("M" + h[1] + clause).say(0), 1);
            c.due(h[0] + " words one hotter", Check.talking("M" + (h[1] + 1) + clause).say(0), LATE);
        }
        c.due("1 word at 9", Check.talking("M90E990C100").say(0), 1);
    }

    static void promise10_whatIsUnknownChangesNothing(Check c) {
        Edges.refused(c, UNKNOWN, "say(-1)", x -> x.say(-1));
        Edges.refused(c, UNKNOWN, "say(5)", x -> x.say(5));
    }

    static void promise10_whatIsLateChangesNothing(Check c) {
        Edges.refused(c, LATE, "say(1), BOUND", x -> x.say(1));
        Edges.refused(c, LATE, "say(0), its ENVOY EATS no more", x -> x.say(0));
        Edges.refused(c, LATE, "say(3), too long", x -> x.say(3));
        Edges.changesNothing(c, () -> Check.talking("M80E990C190"), LATE, "say(0), not hot", x -> x.say(0));
    }

    static void promise10_itIsAnActAndChangesNoHeat(Check c) {
        MustardTreaty x = Check.talking("M73E990C100");
        x.say(0);
        c.due("ACTS", x.about(8), 1);
        c.due("HEAT", x.about(2), 7);
        c.due("SEED", x.about(3), 3);
        c.due("BITES", x.about(6), 0);
    }

    // ---- 11: spice

    static void promise11_theLastSeedAndNone(Check c) {
        MustardTreaty x = Check.talking("M01E010");
        c.due("the last", x.spice(), 2);
        c.due("SEED", x.about(3), 0);
        c.due("none", x.spice(), LATE);
        c.due("SEED then", x.about(3), 0);
    }

    static void promise11_nineSeedsAreTheMost(Check c) {
        MustardTreaty x = Check.talking("M09");
        int[] heat = {2, 4, 6, 8, 9, 9, 9, 9, 9};
        for (int i = 0; i < 9; i++) {
            c.due("spice() " + i, x.spice(), heat[i]);
            c.due("SEED left", x.about(3), 8 - i);
        }
        c.due("the tenth", x.spice(), LATE);
    }

    static void promise11_heatIs9AtMost(Check c) {
        int[] want = {2, 3, 4, 5, 6, 7, 8, 9, 9, 9};
        for (int heat = 0; heat <= 9; heat++) {
            c.due("spice() at " + heat, Check.talking("M" + heat + "1").spice(), want[heat]);
        }
    }

    static void promise11_nobodyNeedEat(Check c) {
        MustardTreaty x = bitten("M91E010", 1);
        c.due("spice()", x.spice(), 9);
        c.due("ACTS", x.about(8), 2);
    }

    static void promise11_whatIsRefusedChangesNothing(Check c) {
        Edges.changesNothing(c, Edges::over, LATE, "spice()", x -> x.spice());
        Edges.changesNothing(c, MustardTreaty::new, LATE, "spice() of a new object", x -> x.spice());
    }

    // ---- 12: bread

    static void promise12_onlyEnvoysThatAreThereAreKnown(Check c) {
        Edges.onlyEnvoysThere(c, (x, envoy) -> x.bread(envoy));
    }

    static void promise12_tearsAre3LessAnd0AtLeast(Check c) {
        int[] want = {0, 0, 0, 0, 1, 2, 3, 4, 5, 6};
        for (int heat = 0; heat <= 9; heat++) {
            MustardTreaty x = bitten("M" + heat + "0E090", 1);
            c.due("bread(0) with " + heat + " TEARS", x.bread(0), want[heat]);
            c.due("TEARS", x.envoy(0, 3), want[heat]);
        }
    }

    static void promise12_onceEach(Check c) {
        MustardTreaty x = bitten("M90E090E090", 1);
        c.due("bread(0)", x.bread(0), 6);
        c.due("bread(0) once more", x.bread(0), LATE);
        c.due("bread(1)", x.bread(1), 6);
        c.due("bread(1) once more", x.bread(1), LATE);
    }

    static void promise12_breadWithoutTearsIsHadToo(Check c) {
        MustardTreaty x = Check.talking("M90E090");
        c.due("bread(0)", x.bread(0), 0);
        x.bite();
        c.due("bread(0) once more", x.bread(0), LATE);
        c.due("TEARS", x.envoy(0, 3), 9);
    }

    static void promise12_itIsLateForOneThatEatsNoMore(Check c) {
        MustardTreaty x = bitten("M20E010E990", 1);
        c.due("bread(0)", x.bread(0), LATE);
        c.due("TEARS", x.envoy(0, 3), 2);
        c.due("who EATS", x.about(4), 2);
        c.due("it had none", x.envoy(0, 5), 0);
    }

    static void promise12_whoHadSomeBearsMore(Check c) {
        MustardTreaty x = bitten("M30E020", 1);
        c.due("bread(0)", x.bread(0), 0);
        c.due("2 of 4", x.bite(), 1);
        c.due("3 of 4", x.bite(), 1);
    }

    static void promise12_whatIsRefusedChangesNothing(Check c) {
        Edges.refused(c, UNKNOWN, "bread(-1)", x -> x.bread(-1));
        Edges.refused(c, UNKNOWN, "bread(4)", x -> x.bread(4));
        Edges.refused(c, LATE, "bread(0), EATS no more", x -> x.bread(0));
        Edges.refused(c, LATE, "bread(1), had some", x -> x.bread(1));
    }

    static void promise12_itIsAnActAndNoBite(Check c) {
        MustardTreaty x = Check.talking("M71E010");
        x.bread(0);
        c.due("ACTS", x.about(8), 1);
        c.due("BITES", x.about(6), 0);
        c.due("HEAT", x.about(2), 7);
    }

    // ---- 13: undo

    static void promise13_itIsLateWhenThereIsNone(Check c) {
        c.due("a new object", new MustardTreaty().undo(), LATE);
        MustardTreaty x = bitten("M90E990", 1);
        c.due("the only one", x.undo(), 0);
        c.due("none is left", x.undo(), LATE);
    }

    static void promise13_whatIsRefusedChangesNothing(Check c) {
        Edges.changesNothing(c, MustardTreaty::new, LATE, "undo() of a new object", x -> x.undo());
        Edges.changesNothing(c, () -> emptied(), LATE, "undo() of no ACTS", x -> x.undo());
    }

    private static MustardTreaty emptied() {
        MustardTreaty x = Edges.busy();
        for (int i = 0; i < 5; i++) {
            x.undo();
        }
        return x;
    }

    static void promise13_fourteenAreTheMost(Check c) {
        MustardTreaty x = bitten("M00E990", 14);
        c.due("ACTS", x.about(8), 14);
        for (int left = 13; left >= 0; left--) {
            c.due("undo()", x.undo(), left);
        }
        c.due("undo() of none", x.undo(), LATE);
        c.due("BITES", x.about(6), 0);
    }

    static void promise13_byTheFifteenthTheFirstIsForgotten(Check c) {
        MustardTreaty x = bitten("M00E990", 15);
        c.due("ACTS", x.about(8), 14);
        for (int left = 13; left >= 0; left--) {
            c.due("undo()", x.undo(), left);
        }
        c.due("undo() of the first", x.undo(), LATE);
        c.due("BITES", x.about(6), 1);
    }

    static void promise13_theRowComesRoundAgainAndAgain(Check c) {
        for (int bites = 16; bites <= 60; bites++) {
            MustardTreaty x = bitten("M00E990", bites);
            for (int left = 13; left >= 0; left--) {
                c.due("undo() of " + bites, x.undo(), left);
                c.due("BITES of " + bites, x.about(6), bites - 14 + left);
            }
            c.due("undo() of none", x.undo(), LATE);
        }
    }

    static void promise13_whatWasUndoneMakesRoom(Check c) {
        MustardTreaty x = bitten("M99E991", 20);
        for (int i = 0; i < 10; i++) {
            x.undo();
        }
        c.due("ACTS left", x.about(8), 4);
        for (int i = 5; i <= 14; i++) {
            x.bite();
            c.due("ACTS", x.about(8), i);
        }
        x.bite();
        c.due("ACTS when full", x.about(8), 14);
        c.due("BITES", x.about(6), 21);
        c.due("undo()", x.undo(), 13);
        c.due("BITES then", x.about(6), 20);
    }

    static void promise13_everyKindOfActIsForgottenAlike(Check c) {
        MustardTreaty x = Check.talking("M03E990C100");
        x.spice();
        x.bread(0);
        x.say(0);
        x.spice();
        for (int i = 0; i < 13; i++) {
            x.bite();
        }
        c.due("ACTS", x.about(8), 14);
        for (int i = 0; i < 14; i++) {
            x.undo();
        }
        c.due("undo() of none", x.undo(), LATE);
        c.due("the first SEED stays", x.about(3), 2);
        c.due("the HEAT by it", x.about(2), 2);
        c.due("BREAD stays", x.envoy(0, 5), 1);
        c.due("what was SAID stays", x.about(5), 1);
    }

    private static void undone(Check c, String name, MustardTreaty x, Edges.Call act) {
        String was = Check.seenOf(x);
        int acts = x.about(8);
        act.on(x);
        c.due(name + " is an ACT", x.about(8), acts + 1);
        c.due("undo() of " + name, x.undo(), acts);
        c.holds(name + " is undone", Check.seenOf(x).equals(was));
    }

    static void promise13_aBiteOfAColdPotIsUndone(Check c) {
        undone(c, "a BITE at 0", Check.talking("M00E090"), x -> x.bite());
        undone(c, "a BITE at 1", Check.talking("M10E090"), x -> x.bite());
    }

    static void promise13_aBiteByWhichTheyStopIsUndone(Check c) {
        undone(c, "the last BITE", Check.talking("M90E010E090E011E012C100"), x -> x.bite());
        undone(c, "a BITE of one that is left", bitten("M90E010E991", 1), x -> x.bite());
    }

    static void promise13_aSeedInAHotPotIsUndone(Check c) {
        for (int heat = 6; heat <= 9; heat++) {
            undone(c, "SEEDED at " + heat, Check.talking("M" + heat + "1E010"), x -> x.spice());
        }
    }

    static void promise13_breadForFewTearsIsUndone(Check c) {
        for (int tears = 0; tears <= 4; tears++) {
            undone(c, "BREAD for " + tears, bitten("M" + tears + "0E090", 1), x -> x.bread(0));
        }
    }

    static void promise13_whatWasSaidIsUndone(Check c) {
        for (int clause = 0; clause <= 4; clause++) {
            int said = clause;
            undone(c, "SAID " + clause, Check.talking(Edges.LONGEST), x -> x.say(said));
        }
    }

    static void promise13_whatIsUndoneCanBeDoneAgain(Check c) {
        MustardTreaty x = Check.talking("M01E010C100");
        for (int i = 0; i < 20; i++) {
            c.due("spice()", x.spice(), 2);
            c.due("bread(0)", x.bread(0), 0);
            c.due("say(0)", x.say(0), 1);
            c.due("bite()", x.bite(), 0);
            for (int left = 3; left >= 0; left--) {
                c.due("undo()", x.undo(), left);
            }
        }
    }

    static void promise13_onlyActsAreUndone(Check c) {
        MustardTreaty x = bitten("M90E990", 1);
        x.write(77);
        x.see(0, 0, 0);
        x.seed(9);
        x.keep(0);
        c.due("undo()", x.undo(), 0);
        c.due("bytes", x.about(10), 8);
        c.due("SEEN", x.about(9), 1);
        c.due("THE SEED", x.seed(0), 9);
        c.due("what was kept", x.again(0), 1);
    }
}

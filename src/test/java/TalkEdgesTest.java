/** Boundary cases of promises 1 to 8: a new object, the text, the talk and what it tells. */
public final class TalkEdgesTest {
    private static final int UNKNOWN = -1, BAD = -2, LATE = -3, FULL = -4, NONE = -9;
    private static final String FOUR = "M00E010E010E010E010";

    public static void main(String[] args) {
        Edges.run(TalkEdgesTest.class, 1, 8);
    }

    // ---- 1: a new object

    static void promise01_nobodyIsThere(Check c) {
        MustardTreaty x = new MustardTreaty();
        c.due("ENVOYS", x.about(0), 0);
        c.due("who EATS", x.about(4), 0);
        c.due("envoy(0, 0)", x.envoy(0, 0), UNKNOWN);
        c.due("lasts()", x.lasts(), 0);
    }

    static void promise01_thereIsNoClause(Check c) {
        MustardTreaty x = new MustardTreaty();
        c.due("CLAUSES", x.about(1), 0);
        c.due("BOUND", x.about(5), 0);
        c.due("what can be SAID", x.about(7), 0);
        c.due("clause(0, 0)", x.clause(0, 0), UNKNOWN);
    }

    static void promise01_heatAndSeedAre0(Check c) {
        MustardTreaty x = new MustardTreaty();
        c.due("HEAT", x.about(2), 0);
        c.due("SEED", x.about(3), 0);
        c.due("spice()", x.spice(), LATE);
    }

    static void promise01_theTextIsEmpty(Check c) {
        MustardTreaty x = new MustardTreaty();
        c.due("bytes", x.about(10), 0);
        c.due("fault()", x.fault(), 0);
        c.due("wipe()", x.wipe(), 0);
    }

    static void promise01_thereAreNoActsAndNoBites(Check c) {
        MustardTreaty x = new MustardTreaty();
        c.due("BITES", x.about(6), 0);
        c.due("ACTS", x.about(8), 0);
        c.due("undo()", x.undo(), LATE);
    }

    static void promise01_nothingIsSeen(Check c) {
        MustardTreaty x = new MustardTreaty();
        c.due("SEEN", x.about(9), 0);
        for (int kind = 0; kind <= 3; kind++) {
            c.due("palates(" + kind + ")", x.palates(kind), 1023);
        }
        c.due("unsee()", x.unsee(), 0);
    }

    static void promise01_theSeedIs0(Check c) {
        c.due("seed(5)", new MustardTreaty().seed(5), 0);
    }

    static void promise01_nothingIsKept(Check c) {
        MustardTreaty x = new MustardTreaty();
        c.due("again(0)", x.again(0), LATE);
        c.due("again(1)", x.again(1), LATE);
    }

    static void promise01_itAnswersFor512Calls(Check c) {
        MustardTreaty x = Check.talking("M90E991");
        int calls = 9;
        for (int bites = 1; calls < 510; bites++) {
            x.bite();
            calls++;
            c.due("BITES at call " + ++calls, x.about(6), bites);
        }
        c.due("undo() at call 512", x.undo(), 13);
    }

    static void promise01_whatIsDoneWithOneObjectIsNotDoneWithAnother(Check c) {
        String was = Edges.wholeOf(new MustardTreaty());
        MustardTreaty ahead = new MustardTreaty();
        Edges.busy();
        c.holds("an object made ahead is new still", Edges.wholeOf(ahead).equals(was));
        c.holds("an object made behind is new", Edges.wholeOf(new MustardTreaty()).equals(was));
    }

    // ---- 2: write

    static void promise02_theByte0IsTakenAndOneLessIsBad(Check c) {
        MustardTreaty x = new MustardTreaty();
        c.due("write(0)", x.write(0), 1);
        c.due("write(-1)", x.write(-1), BAD);
        c.due("write(MIN)", x.write(Edges.MIN), BAD);
        c.due("bytes", x.about(10), 1);
    }

    static void promise02_theByte255IsTakenAndOneMoreIsBad(Check c) {
        MustardTreaty x = new MustardTreaty();
        c.due("write(255)", x.write(255), 1);
        c.due("write(256)", x.write(256), BAD);
        c.due("write(MAX)", x.write(Edges.MAX), BAD);
        c.due("bytes", x.about(10), 1);
    }

    static void promise02_aByteDoesNotWrapAround(Check c) {
        MustardTreaty x = new MustardTreaty();
        c.due("write(77 + 256)", x.write(77 + 256), BAD);
        c.due("write(77 - 256)", x.write(77 - 256), BAD);
        c.due("write(77 + 128)", x.write(77 + 128), 1);
        c.due("that is no M", x.fault(), 0);
    }

    static void promise02_everyByteComesBehindTheText(Check c) {
        MustardTreaty x = new MustardTreaty();
        for (int i = 0; i < Edges.LONGEST.length(); i++) {
            c.due("write " + i, x.write(Edges.LONGEST.charAt(i)), i + 1);
        }
        c.due("fault()", x.fault(), NONE);
    }

    static void promise02_the48thIsTakenAndThe49thIsFull(Check c) {
        MustardTreaty x = filled(47);
        c.due("the 48th", x.write(0), 48);
        c.due("the 49th", x.write(0), FULL);
        c.due("bytes", x.about(10), 48);
    }

    static void promise02_badIsToldAheadOfFull(Check c) {
        MustardTreaty x = filled(48);
        c.due("write(-1)", x.write(-1), BAD);
        c.due("write(256)", x.write(256), BAD);
        c.due("write(255)", x.write(255), FULL);
    }

    static void promise02_whatIsBadChangesNothing(Check c) {
        Edges.refused(c, BAD, "write(-1)", x -> x.write(-1));
        Edges.refused(c, BAD, "write(256)", x -> x.write(256));
        Edges.refused(c, BAD, "write('E' + 256)", x -> x.write('E' + 256));
    }

    static void promise02_whatIsFullChangesNothing(Check c) {
        Edges.changesNothing(c, () -> filled(48), FULL, "write(0)", x -> x.write(0));
        Edges.changesNothing(c, () -> filled(48), FULL, "write(255)", x -> x.write(255));
    }

    static void promise02_aFullTextCanBeWrittenAgainWhenItIsWiped(Check c) {
        MustardTreaty x = filled(48);
        x.wipe();
        for (int i = 1; i <= 48; i++) {
            c.due("write " + i, x.write(255), i);
        }
        c.due("the 49th", x.write(255), FULL);
    }

    private static MustardTreaty filled(int bytes) {
        MustardTreaty x = new MustardTreaty();
        for (int i = 0; i < bytes; i++) {
            x.write(i < Edges.LONGEST.length() ? Edges.LONGEST.charAt(i) : 0);
        }
        return x;
    }

    // ---- 3: wipe

    static void promise03_anEmptyTextWas0Long(Check c) {
        MustardTreaty x = new MustardTreaty();
        c.due("wipe()", x.wipe(), 0);
        c.due("bytes", x.about(10), 0);
    }

    static void promise03_aTextOfOneByteWas1Long(Check c) {
        MustardTreaty x = filled(1);
        c.due("wipe()", x.wipe(), 1);
        c.due("wipe() once more", x.wipe(), 0);
    }

    static void promise03_aFullTextWas48Long(Check c) {
        MustardTreaty x = filled(48);
        c.due("wipe()", x.wipe(), 48);
        c.due("bytes", x.about(10), 0);
        c.due("fault()", x.fault(), 0);
        c.due("write(77)", x.write(77), 1);
    }

    static void promise03_onlyTheTextIsWiped(Check c) {
        MustardTreaty x = busyBehindItsLastWipe();
        c.due("wipe()", x.wipe(), 11);
        for (char letter : "M45E113C120".toCharArray()) {
            x.write(letter);
        }
        c.holds("all else is as it was", Edges.wholeOf(x).equals(Edges.wholeOf(busyBehindItsLastWipe())));
    }

    /** busy() wipes at its end, so what another wipe might take must come behind it. */
    private static MustardTreaty busyBehindItsLastWipe() {
        MustardTreaty x = Edges.busy();
        x.keep(0);
        x.bite();
        x.keep(1);
        x.see(1, 1, 0);
        x.seed(54321);
        return x;
    }

    // ---- 4: fault

    private static void fault(Check c, String text, int want) {
        MustardTreaty x = new MustardTreaty();
        Check.tell(x, text);
        c.due("fault() of " + text, x.fault(), want);
    }

    /** Of all 256 bytes between these two only the ones of least .. most are no fault. */
    private static void onlyBytes(Check c, String ahead, String behind, int least, int most) {
        for (int letter = 0; letter <= 255; letter++) {
            boolean can = letter >= least && letter <= most;
            fault(c, ahead + (char) letter + behind, can ? NONE : ahead.length());
        }
    }

    static void promise04_theEmptyTextIsOnlyNotAtItsEnd(Check c) {
        fault(c, "", 0);
    }

    static void promise04_theShortestTalkHasNoParts(Check c) {
        fault(c, "M0", 2);
        fault(c, "M00", NONE);
        fault(c, "M00E", 4);
    }

    static void promise04_aTextThatIsOnlyNotAtItsEndIsAtFaultAtItsLength(Check c) {
        String talk = "M00E010C100";
        for (int length = 0; length <= talk.length(); length++) {
            boolean ended = length == 3 || length == 7 || length == 11;
            fault(c, talk.substring(0, length), ended ? NONE : length);
        }
    }

    static void promise04_onlyMBegins(Check c) {
        onlyBytes(c, "", "00", 'M', 'M');
    }

    static void promise04_heatIs0To9(Check c) {
        onlyBytes(c, "M", "0", '0', '9');
    }

    static void promise04_seedIs0To9(Check c) {
        onlyBytes(c, "M0", "", '0', '9');
    }

    static void promise04_aPartIsAnEnvoyOrAClause(Check c) {
        for (int letter = 0; letter <= 255; letter++) {
            boolean can = letter == 'E' || letter == 'C';
            fault(c, "M00E010" + (char) letter + "110", can ? NONE : 7);
        }
    }

    static void promise04_palateIs0To9(Check c) {
        onlyBytes(c, "M00E", "10", '0', '9');
    }

    static void promise04_witsAre1To9(Check c) {
        onlyBytes(c, "M00E0", "0", '1', '9');
    }

    static void promise04_kindIs0To3(Check c) {
        onlyBytes(c, "M00E01", "", '0', '3');
    }

    static void promise04_aClauseIs1To4Long(Check c) {
        onlyBytes(c, "M00E010C", "00", '1', '4');
    }

    static void promise04_aClauseMustBeSaidAt0To9(Check c) {
        onlyBytes(c, "M00E010C1", "0", '0', '9');
    }

    static void promise04_aClauseIsOfAnEnvoyToldAhead(Check c) {
        onlyBytes(c, "M00E010C10", "", '0', '0');
        onlyBytes(c, "M00E010E010C10", "", '0', '1');
        onlyBytes(c, FOUR + "C10", "", '0', '3');
    }

    static void promise04_anEnvoyToldBehindIsTooLate(Check c) {
        fault(c, "M00E010C101E010", 10);
        fault(c, "M00E010C100E010C101", NONE);
    }

    static void promise04_noClauseCanBeToldAheadOfAllEnvoys(Check c) {
        fault(c, "M00C", 3);
        fault(c, "M00C100", 3);
        fault(c, "M00C100E010", 3);
    }

    static void promise04_fourEnvoysAreTheMost(Check c) {
        fault(c, FOUR, NONE);
        fault(c, FOUR + "E", 19);
        fault(c, FOUR + "E010", 19);
        fault(c, FOUR + "C100E010", 23);
    }

    static void promise04_fiveClausesAreTheMost(Check c) {
        String five = "M00E010C100C100C100C100C100";
        fault(c, five, NONE);
        fault(c, five + "C", 27);
        fault(c, five + "C100", 27);
        fault(c, five + "E010", NONE);
        fault(c, five + "E010C", 31);
    }

    static void promise04_theLongestTalkHas39Bytes(Check c) {
        fault(c, Edges.LONGEST.substring(0, 38), 38);
        fault(c, Edges.LONGEST, NONE);
        for (int letter = 0; letter <= 255; letter++) {
            fault(c, Edges.LONGEST + (char) letter, 39);
        }
    }

    static void promise04_aFullTextIsAtFault(Check c) {
        fault(c, Edges.LONGEST + "E010C100M", 39);
        fault(c, "M".repeat(48), 1);
    }

    static void promise04_theFirstOfSeveralFaultsIsTold(Check c) {
        fault(c, "X00E010", 0);
        fault(c, "XXX", 0);
        fault(c, "M0XX", 2);
        fault(c, "M00E00X", 5);
        fault(c, "M00E010C509", 8);
    }

    static void promise04_aFaultStaysWhateverComesBehindIt(Check c) {
        MustardTreaty x = new MustardTreaty();
        Check.tell(x, "M00E0");
        c.due("ahead of it", x.fault(), 5);
        for (int bytes = 6; bytes <= 48; bytes++) {
            x.write('0');
            c.due("with " + bytes + " bytes", x.fault(), 5);
        }
    }

    static void promise04_nothingIsChanged(Check c) {
        Edges.asks(c, "fault()", x -> x.fault());
    }

    // ---- 5: talk

    private static int told(String text) {
        MustardTreaty x = new MustardTreaty();
        Check.tell(x, text);
        return x.talk();
    }

    static void promise05_aTalkOfNobodyIs0(Check c) {
        c.due("talk() of M00", told("M00"), 0);
        c.due("talk() of M99", told("M99"), 0);
    }

    static void promise05_envoysCountTenAndClausesOne(Check c) {
        c.due("one ENVOY", told("M00E010"), 10);
        c.due("and a CLAUSE", told("M00E010C100"), 11);
        c.due("four ENVOYS", told(FOUR), 40);
        c.due("five CLAUSES", told("M00E010C100C100C100C100C100"), 15);
    }

    static void promise05_theLongestTalkIs45(Check c) {
        c.due("talk()", told(Edges.LONGEST), 45);
    }

    static void promise05_anEmptyTextIsLate(Check c) {
        c.due("talk()", new MustardTreaty().talk(), LATE);
    }

    static void promise05_aTextThatIsOnlyNotAtItsEndIsLate(Check c) {
        for (int length = 0; length <= 2; length++) {
            c.due("talk() of " + length, told(Edges.LONGEST.substring(0, length)), LATE);
        }
        for (int length = 3; length <= 39; length++) {
            int want = length % 4 == 3 ? 0 : LATE;
            c.due("talk() of " + length, Math.min(0, told(Edges.LONGEST.substring(0, length))), want);
        }
    }

    static void promise05_aTextThatCanBeNoTalkIsLate(Check c) {
        c.due("no M", told("N00"), LATE);
        c.due("a fifth ENVOY", told(FOUR + "E010"), LATE);
        c.due("a sixth CLAUSE", told("M00E010C100C100C100C100C100C100"), LATE);
        c.due("no ENVOY ahead", told("M00C100E010"), LATE);
        c.due("48 bytes", told(Edges.LONGEST + "000000000"), LATE);
    }

    static void promise05_whatIsRefusedChangesNothing(Check c) {
        Edges.changesNothing(c, () -> withText(""), LATE, "talk() of nothing", x -> x.talk());
        Edges.changesNothing(c, () -> withText("M12E"), LATE, "talk() of no end", x -> x.talk());
        Edges.changesNothing(c, () -> withText("M12X"), LATE, "talk() of a fault", x -> x.talk());
        Edges.changesNothing(c, () -> withText("M12E123C111"), LATE, "talk() of a late fault", x -> x.talk());
    }

    private static MustardTreaty withText(String text) {
        MustardTreaty x = Edges.busy();
        Check.tell(x, text);
        return x;
    }

    private static MustardTreaty madeAnew() {
        MustardTreaty x = withText("M83E010E290E991E443C160C281C300C402C103");
        x.talk();
        return x;
    }

    static void promise05_heatAndSeedAreAsTold(Check c) {
        MustardTreaty x = madeAnew();
        c.due("HEAT", x.about(2), 8);
        c.due("SEED", x.about(3), 3);
    }

    static void promise05_allEnvoysEat(Check c) {
        c.due("who EATS", madeAnew().about(4), 15);
    }

    static void promise05_nobodyHasTears(Check c) {
        MustardTreaty x = madeAnew();
        for (int e = 0; e < 4; e++) {
            c.due("TEARS of " + e, x.envoy(e, 3), 0);
        }
    }

    static void promise05_noClauseIsBound(Check c) {
        c.due("BOUND", madeAnew().about(5), 0);
    }

    static void promise05_noBiteWasTaken(Check c) {
        c.due("BITES", madeAnew().about(6), 0);
    }

    static void promise05_nobodyHadBread(Check c) {
        MustardTreaty x = madeAnew();
        for (int e = 0; e < 4; e++) {
            c.due("BREAD of " + e, x.envoy(e, 5), 0);
            c.due("bread(" + e + ")", x.bread(e), 0);
        }
    }

    static void promise05_thereAreNoActs(Check c) {
        MustardTreaty x = madeAnew();
        c.due("ACTS", x.about(8), 0);
        c.due("undo()", x.undo(), LATE);
    }

    static void promise05_whatWasKeptIsGone(Check c) {
        MustardTreaty x = madeAnew();
        c.due("again(0)", x.again(0), LATE);
        c.due("again(1)", x.again(1), LATE);
    }

    static void promise05_whatIsSeenStays(Check c) {
        MustardTreaty x = madeAnew();
        c.due("SEEN", x.about(9), 2);
        c.due("palates(0)", x.palates(0), 8);
        c.due("palates(2)", x.palates(2), 0b1111100000);
    }

    static void promise05_theSeedStays(Check c) {
        c.due("seed(0)", madeAnew().seed(0), 12345);
    }

    static void promise05_theTextStays(Check c) {
        MustardTreaty x = madeAnew();
        c.due("bytes", x.about(10), 39);
        c.due("fault()", x.fault(), NONE);
        c.due("talk() once more", x.talk(), 45);
    }

    static void promise05_whoIsNotToldAnyMoreIsGone(Check c) {
        MustardTreaty x = withText("M00");
        c.due("talk()", x.talk(), 0);
        c.due("envoy(0, 0)", x.envoy(0, 0), UNKNOWN);
        c.due("clause(0, 0)", x.clause(0, 0), UNKNOWN);
        c.due("who EATS", x.about(4), 0);
        c.due("bite()", x.bite(), LATE);
    }

    static void promise05_partsAreNumberedEachKindForItself(Check c) {
        MustardTreaty x = Check.talking("M00E110C110E220C221");
        c.due("PALATE of 0", x.envoy(0, 0), 1);
        c.due("PALATE of 1", x.envoy(1, 0), 2);
        c.due("length of 0", x.clause(0, 0), 1);
        c.due("length of 1", x.clause(1, 0), 2);
    }

    // ---- 6: about

    private static void whole(Check c, MustardTreaty x, int what, int want) {
        c.due("about(" + what + ")", x.about(what), want);
    }

    static void promise06_whatIs0AtLeast(Check c) {
        MustardTreaty x = Check.talking("M00E010");
        whole(c, x, 0, 1);
        whole(c, x, -1, BAD);
        whole(c, x, Edges.MIN, BAD);
    }

    static void promise06_whatIs10AtMost(Check c) {
        MustardTreaty x = Check.talking("M00E010");
        whole(c, x, 10, 7);
        whole(c, x, 11, BAD);
        whole(c, x, Edges.MAX, BAD);
    }

    static void promise06_whatIsRefusedChangesNothing(Check c) {
        Edges.refused(c, BAD, "about(-1)", x -> x.about(-1));
        Edges.refused(c, BAD, "about(11)", x -> x.about(11));
    }

    static void promise06_nothingIsChanged(Check c) {
        for (int what = 0; what <= 10; what++) {
            int asked = what;
            Edges.asks(c, "about(" + asked + ")", x -> x.about(asked));
        }
    }

    static void promise06_envoysNoneAndFour(Check c) {
        whole(c, Check.talking("M00"), 0, 0);
        whole(c, Check.talking(Edges.LONGEST), 0, 4);
    }

    static void promise06_clausesNoneAndFive(Check c) {
        whole(c, Check.talking(FOUR), 1, 0);
        whole(c, Check.talking(Edges.LONGEST), 1, 5);
    }

    static void promise06_heat0And9(Check c) {
        whole(c, Check.talking("M05"), 2, 0);
        whole(c, Check.talking("M95"), 2, 9);
    }

    static void promise06_seed0And9(Check c) {
        whole(c, Check.talking("M50"), 3, 0);
        MustardTreaty x = Check.talking("M59");
        whole(c, x, 3, 9);
        x.spice();
        whole(c, x, 3, 8);
    }

    static void promise06_allEatAndNobodyDoes(Check c) {
        MustardTreaty x = Check.talking("M90E010E010E010E010");
        whole(c, x, 4, 15);
        x.bite();
        whole(c, x, 4, 0);
    }

    static void promise06_nothingIsBoundAndAllIs(Check c) {
        MustardTreaty x = Check.talking(Edges.LONGEST);
        whole(c, x, 5, 0);
        for (int clause = 0; clause <= 4; clause++) {
            x.say(clause);
        }
        whole(c, x, 5, 31);
    }

    static void promise06_bitesGoOnWhenActsAreFull(Check c) {
        MustardTreaty x = Check.talking("M00E990");
        for (int bites = 0; bites <= 100; bites++) {
            whole(c, x, 6, bites);
            whole(c, x, 8, Math.min(14, bites));
            x.bite();
        }
    }

    static void promise06_allCanBeSaidAndNothingCan(Check c) {
        MustardTreaty x = Check.talking(Edges.LONGEST);
        whole(c, x, 7, 31);
        for (int clause = 0; clause <= 4; clause++) {
            x.say(clause);
        }
        whole(c, x, 7, 0);
        whole(c, Edges.over(), 7, 0);
    }

    static void promise06_wordsThatCanBeSaidAreCutByThrees(Check c) {
        int[] words = {4, 4, 4, 3, 3, 3, 2, 2, 2, 1};
        for (int heat = 0; heat <= 9; heat++) {
            MustardTreaty x = Check.talking("M" + heat + "0E990C100C200C300C400");
            whole(c, x, 7, (1 << words[heat]) - 1);
        }
    }

    static void promise06_aClauseCanBeSaidFromItsHeatOn(Check c) {
        for (int needed = 0; needed <= 9; needed++) {
            for (int heat = 0; heat <= 9; heat++) {
                whole(c, Check.talking("M" + heat + "0E990C1" + needed + "0"), 7, heat >= needed ? 1 : 0);
            }
        }
    }

    static void promise06_seenNoneAndSix(Check c) {
        MustardTreaty x = new MustardTreaty();
        for (int seen = 0; seen <= 6; seen++) {
            whole(c, x, 9, seen);
            x.see(0, 0, 0);
        }
        whole(c, x, 9, 6);
    }

    static void promise06_bytesNoneAnd48(Check c) {
        whole(c, filled(0), 10, 0);
        whole(c, filled(48), 10, 48);
    }

    // ---- 7: envoy

    static void promise07_onlyEnvoysThatAreThereAreKnown(Check c) {
        Edges.onlyEnvoysThere(c, (x, envoy) -> x.envoy(envoy, 0));
    }

    static void promise07_whatIs0To5(Check c) {
        MustardTreaty x = Check.talking("M00E710");
        c.due("envoy(0, 0)", x.envoy(0, 0), 7);
        c.due("envoy(0, -1)", x.envoy(0, -1), BAD);
        c.due("envoy(0, MIN)", x.envoy(0, Edges.MIN), BAD);
        c.due("envoy(0, 5)", x.envoy(0, 5), 0);
        c.due("envoy(0, 6)", x.envoy(0, 6), BAD);
        c.due("envoy(0, MAX)", x.envoy(0, Edges.MAX), BAD);
    }

    static void promise07_unknownIsToldAheadOfBad(Check c) {
        MustardTreaty x = Check.talking("M00E010");
        c.due("envoy(1, 6)", x.envoy(1, 6), UNKNOWN);
        c.due("envoy(-1, -1)", x.envoy(-1, -1), UNKNOWN);
    }

    static void promise07_whatIsRefusedChangesNothing(Check c) {
        Edges.refused(c, UNKNOWN, "envoy(4, 0)", x -> x.envoy(4, 0));
        Edges.refused(c, BAD, "envoy(3, 6)", x -> x.envoy(3, 6));
    }

    static void promise07_nothingIsChanged(Check c) {
        for (int what = 0; what <= 5; what++) {
            int asked = what;
            Edges.asks(c, "envoy(0, " + asked + ")", x -> x.envoy(0, asked));
        }
    }

    static void promise07_palateAndWitsAndKindAtTheirEnds(Check c) {
        MustardTreaty x = Check.talking("M00E010E993");
        int[][] want = {{0, 1, 0}, {9, 9, 3}};
        for (int e = 0; e <= 1; e++) {
            for (int what = 0; what <= 2; what++) {
                c.due("envoy(" + e + ", " + what + ")", x.envoy(e, what), want[e][what]);
            }
        }
    }

    /** PAIN of a KIND, by how much the HEAT is more than the PALATE: from none up. */
    private static void pain(Check c, int kind, int... want) {
        for (int palate = 0; palate <= 9; palate++) {
            for (int heat = 0; heat <= 9; heat++) {
                MustardTreaty x = Check.talking("M" + heat + "0E" + palate + "9" + kind);
                c.due("PAIN at " + heat + " by " + palate, x.envoy(0, 4), want[Math.max(0, heat - palate)]);
            }
        }
    }

    static void promise07_painOfPlainIs0AtLeast(Check c) {
        pain(c, 0, 0, 1, 2, 3, 4, 5, 6, 7, 8, 9);
    }

    static void promise07_painOfNumbIs0(Check c) {
        pain(c, 1, 0, 0, 0, 0, 0, 0, 0, 0, 0, 0);
    }

    static void promise07_painOfWeeperIs1MoreIfItIsAny(Check c) {
        pain(c, 2, 0, 2, 3, 4, 5, 6, 7, 8, 9, 10);
    }

    static void promise07_painOfBeerIs1LessAnd0AtLeast(Check c) {
        pain(c, 3, 0, 0, 1, 2, 3, 4, 5, 6, 7, 8);
    }

    static void promise07_painIsAtTheHeatNow(Check c) {
        MustardTreaty x = Check.talking("M81E090");
        c.due("PAIN at 8", x.envoy(0, 4), 8);
        x.bite();
        c.due("PAIN behind a BITE", x.envoy(0, 4), 7);
        x.spice();
        c.due("PAIN behind SEED", x.envoy(0, 4), 9);
    }

    static void promise07_painOfOneThatEatsNoMore(Check c) {
        c.due("PAIN", Edges.over().envoy(0, 4), 8);
        c.due("TEARS", Edges.over().envoy(0, 3), 9);
    }

    static void promise07_breadIs0Then1(Check c) {
        MustardTreaty x = Check.talking("M00E010E010");
        c.due("none", x.envoy(0, 5), 0);
        x.bread(0);
        c.due("some", x.envoy(0, 5), 1);
        c.due("of the other none", x.envoy(1, 5), 0);
    }

    // ---- 8: clause

    static void promise08_onlyClausesThatAreThereAreKnown(Check c) {
        Edges.onlyClausesThere(c, (x, clause) -> x.clause(clause, 0));
    }

    static void promise08_whatIs0To3(Check c) {
        MustardTreaty x = Check.talking("M00E010C250");
        c.due("clause(0, 0)", x.clause(0, 0), 2);
        c.due("clause(0, -1)", x.clause(0, -1), BAD);
        c.due("clause(0, MIN)", x.clause(0, Edges.MIN), BAD);
        c.due("clause(0, 3)", x.clause(0, 3), 7);
        c.due("clause(0, 4)", x.clause(0, 4), BAD);
        c.due("clause(0, MAX)", x.clause(0, Edges.MAX), BAD);
    }

    static void promise08_unknownIsToldAheadOfBad(Check c) {
        MustardTreaty x = Check.talking("M00E010C100");
        c.due("clause(1, 4)", x.clause(1, 4), UNKNOWN);
        c.due("clause(-1, -1)", x.clause(-1, -1), UNKNOWN);
    }

    static void promise08_whatIsRefusedChangesNothing(Check c) {
        Edges.refused(c, UNKNOWN, "clause(5, 0)", x -> x.clause(5, 0));
        Edges.refused(c, BAD, "clause(4, 4)", x -> x.clause(4, 4));
    }

    static void promise08_nothingIsChanged(Check c) {
        for (int what = 0; what <= 3; what++) {
            int asked = what;
            Edges.asks(c, "clause(0, " + asked + ")", x -> x.clause(0, asked));
        }
    }

    static void promise08_theLeastAndTheMostOfEach(Check c) {
        MustardTreaty x = Check.talking(FOUR + "C100C493");
        int[][] want = {{1, 0, 0, 1}, {4, 9, 3, 13}};
        for (int clause = 0; clause <= 1; clause++) {
            for (int what = 0; what <= 3; what++) {
                c.due("clause(" + clause + ", " + what + ")", x.clause(clause, what), want[clause][what]);
            }
        }
    }
}

/** Boundary cases of promises 21 to 23: what was seen, and the palates by which it is so. */
public final class PalatesEdgesTest {
    private static final int BAD = -2, FULL = -4;

    public static void main(String[] args) {
        Edges.run(PalatesEdgesTest.class, 21, 23);
    }

    private static void seen(Check c, MustardTreaty x, int kind, int h, int t, int want) {
        c.due("see(" + kind + ", " + h + ", " + t + ")", x.see(kind, h, t), want);
    }

    private static MustardTreaty filled() {
        MustardTreaty x = new MustardTreaty();
        for (int i = 0; i < 6; i++) {
            x.see(0, 9, 4);
        }
        return x;
    }

    // ---- 21: see

    static void promise21_kindIs0To3(Check c) {
        MustardTreaty x = new MustardTreaty();
        seen(c, x, -1, 0, 0, BAD);
        seen(c, x, Edges.MIN, 0, 0, BAD);
        seen(c, x, 4, 0, 0, BAD);
        seen(c, x, Edges.MAX, 0, 0, BAD);
        for (int kind = 0; kind <= 3; kind++) {
            seen(c, x, kind, 0, 0, kind + 1);
        }
    }

    static void promise21_heatIs0To9(Check c) {
        MustardTreaty x = new MustardTreaty();
        seen(c, x, 0, -1, 0, BAD);
        seen(c, x, 0, Edges.MIN, 0, BAD);
        seen(c, x, 0, 10, 0, BAD);
        seen(c, x, 0, Edges.MAX, 0, BAD);
        seen(c, x, 0, 0, 0, 1);
        seen(c, x, 0, 9, 0, 2);
    }

    static void promise21_tearsAre0To10(Check c) {
        MustardTreaty x = new MustardTreaty();
        seen(c, x, 0, 0, -1, BAD);
        seen(c, x, 0, 0, Edges.MIN, BAD);
        seen(c, x, 0, 0, 11, BAD);
        seen(c, x, 0, 0, Edges.MAX, BAD);
        seen(c, x, 0, 0, 0, 1);
        seen(c, x, 0, 0, 10, 2);
    }

    static void promise21_theSixthIsTakenAndTheSeventhIsFull(Check c) {
        MustardTreaty x = new MustardTreaty();
        for (int i = 1; i <= 6; i++) {
            seen(c, x, 0, 9, 4, i);
        }
        seen(c, x, 0, 9, 4, FULL);
        c.due("SEEN", x.about(9), 6);
    }

    static void promise21_badIsToldAheadOfFull(Check c) {
        MustardTreaty x = filled();
        seen(c, x, 4, 0, 0, BAD);
        seen(c, x, 0, 10, 0, BAD);
        seen(c, x, 0, 0, 11, BAD);
        seen(c, x, 3, 9, 10, FULL);
    }

    static void promise21_whatIsBadChangesNothing(Check c) {
        Edges.refused(c, BAD, "see(-1, 0, 0)", x -> x.see(-1, 0, 0));
        Edges.refused(c, BAD, "see(4, 0, 0)", x -> x.see(4, 0, 0));
        Edges.refused(c, BAD, "see(0, -1, 0)", x -> x.see(0, -1, 0));
        Edges.refused(c, BAD, "see(0, 10, 0)", x -> x.see(0, 10, 0));
        Edges.refused(c, BAD, "see(0, 0, -1)", x -> x.see(0, 0, -1));
        Edges.refused(c, BAD, "see(0, 0, 11)", x -> x.see(0, 0, 11));
    }

    static void promise21_whatIsFullChangesNothing(Check c) {
        Edges.changesNothing(c, PalatesEdgesTest::filled, FULL, "see(0, 9, 5)", x -> x.see(0, 9, 5));
    }

    static void promise21_sixMoreCanBeSeenBehindUnsee(Check c) {
        MustardTreaty x = filled();
        x.unsee();
        for (int i = 1; i <= 6; i++) {
            seen(c, x, 0, 9, 3, i);
        }
        seen(c, x, 0, 9, 3, FULL);
        c.due("palates(0)", x.palates(0), 1 << 6);
    }

    static void promise21_onlyWhatIsSeenIsChanged(Check c) {
        MustardTreaty x = Edges.busy();
        seen(c, x, 1, 1, 1, 3);
        x.unsee();
        x.see(0, 7, 4);
        x.see(2, 5, 0);
        c.holds("all else is as it was", Edges.wholeOf(x).equals(Edges.wholeOf(Edges.busy())));
    }

    // ---- 22: unsee

    static void promise22_thereWasNothing(Check c) {
        MustardTreaty x = new MustardTreaty();
        c.due("unsee()", x.unsee(), 0);
        c.due("SEEN", x.about(9), 0);
    }

    static void promise22_thereWasOne(Check c) {
        MustardTreaty x = new MustardTreaty();
        x.see(0, 9, 0);
        c.due("unsee()", x.unsee(), 1);
        c.due("unsee() once more", x.unsee(), 0);
    }

    static void promise22_thereWereSix(Check c) {
        MustardTreaty x = filled();
        c.due("unsee()", x.unsee(), 6);
        c.due("SEEN", x.about(9), 0);
        c.due("palates(0)", x.palates(0), 1023);
    }

    static void promise22_whatWasSeenDoesNotComeBack(Check c) {
        MustardTreaty x = filled();
        x.unsee();
        x.see(1, 0, 0);
        c.due("palates(0)", x.palates(0), 1023);
        c.due("palates(1)", x.palates(1), 1023);
    }

    static void promise22_onlyWhatIsSeenIsChanged(Check c) {
        MustardTreaty x = Edges.busy();
        c.due("unsee()", x.unsee(), 2);
        x.see(0, 7, 4);
        x.see(2, 5, 0);
        c.holds("all else is as it was", Edges.wholeOf(x).equals(Edges.wholeOf(Edges.busy())));
    }

    // ---- 23: palates

    static void promise23_kindIs0To3(Check c) {
        MustardTreaty x = filled();
        c.due("palates(-1)", x.palates(-1), BAD);
        c.due("palates(MIN)", x.palates(Edges.MIN), BAD);
        c.due("palates(0)", x.palates(0), 1 << 5);
        c.due("palates(3)", x.palates(3), 1023);
        c.due("palates(4)", x.palates(4), BAD);
        c.due("palates(MAX)", x.palates(Edges.MAX), BAD);
    }

    static void promise23_whatIsRefusedChangesNothing(Check c) {
        Edges.refused(c, BAD, "palates(-1)", x -> x.palates(-1));
        Edges.refused(c, BAD, "palates(4)", x -> x.palates(4));
    }

    static void promise23_nothingSeenFitsAll(Check c) {
        for (int kind = 0; kind <= 3; kind++) {
            c.due("palates(" + kind + ")", new MustardTreaty().palates(kind), 1023);
        }
    }

    static void promise23_whatCanNotBeFitsNone(Check c) {
        MustardTreaty x = new MustardTreaty();
        x.see(0, 5, 3);
        x.see(0, 5, 2);
        c.due("palates(0)", x.palates(0), 0);
    }

    static void promise23_onlyThatKindCounts(Check c) {
        for (int kind = 0; kind <= 3; kind++) {
            MustardTreaty x = new MustardTreaty();
            x.see(kind, 0, 10);
            for (int other = 0; other <= 3; other++) {
                c.due("palates(" + other + ")", x.palates(other), other == kind ? 0 : 1023);
            }
        }
    }

    static void promise23_theFirstAndTheSixthCount(Check c) {
        for (int odd = 0; odd <= 5; odd++) {
            MustardTreaty x = new MustardTreaty();
            for (int i = 0; i <= 5; i++) {
                x.see(0, 7, i == odd ? 1 : 2);
            }
            c.due("palates(0), another one at " + odd, x.palates(0), 0);
            c.due("palates(1)", x.palates(1), 1023);
        }
    }

    /** Which palates fit, for each HEAT and TEARS; pain tells it by how much the HEAT is more, from none up. */
    private static void fits(Check c, int kind, int... pain) {
        for (int h = 0; h <= 9; h++) {
            for (int t = 0; t <= 10; t++) {
                int want = 0;
                for (int palate = 0; palate <= 9; palate++) {
                    want |= pain[Math.max(0, h - palate)] == t ? 1 << palate : 0;
                }
                MustardTreaty x = new MustardTreaty();
                x.see(kind, h, t);
                c.due("palates(" + kind + ") by " + t + " at " + h, x.palates(kind), want);
            }
        }
    }

    static void promise23_plainByEveryHeatAndTears(Check c) {
        fits(c, 0, 0, 1, 2, 3, 4, 5, 6, 7, 8, 9);
    }

    static void promise23_numbByEveryHeatAndTears(Check c) {
        fits(c, 1, 0, 0, 0, 0, 0, 0, 0, 0, 0, 0);
    }

    static void promise23_weeperByEveryHeatAndTears(Check c) {
        fits(c, 2, 0, 2, 3, 4, 5, 6, 7, 8, 9, 10);
    }

    static void promise23_beerByEveryHeatAndTears(Check c) {
        fits(c, 3, 0, 0, 1, 2, 3, 4, 5, 6, 7, 8);
    }

    static void promise23_palatesAreTheBits0To9(Check c) {
        MustardTreaty x = new MustardTreaty();
        x.see(0, 9, 9);
        x.see(2, 9, 10);
        x.see(3, 9, 0);
        c.due("only 0", x.palates(0), 1);
        c.due("only 0 of WEEPERS", x.palates(2), 1);
        c.due("8 and 9 of BEER", x.palates(3), 0b1100000000);
    }

    static void promise23_nothingIsChanged(Check c) {
        for (int kind = 0; kind <= 3; kind++) {
            int asked = kind;
            Edges.asks(c, "palates(" + kind + ")", x -> x.palates(asked));
        }
    }
}

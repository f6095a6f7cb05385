/** Boundary cases of promises 28 and 29: what is kept and gone on from. */
public final class SlotsEdgesTest {
    private static final int UNKNOWN = -1, LATE = -3;

    public static void main(String[] args) {
        Edges.run(SlotsEdgesTest.class, 28, 29);
    }

    // ---- 28: keep

    static void promise28_slotsAre0And1(Check c) {
        Edges.onlyThere(c, MustardTreaty::new, 2, (x, slot) -> x.keep(slot));
    }

    static void promise28_whatIsRefusedChangesNothing(Check c) {
        Edges.refused(c, UNKNOWN, "keep(-1)", x -> x.keep(-1));
        Edges.refused(c, UNKNOWN, "keep(2)", x -> x.keep(2));
        Edges.changesNothing(c, Edges::over, UNKNOWN, "keep(2) with none kept", x -> x.keep(2));
    }

    static void promise28_bitesAreTold(Check c) {
        MustardTreaty x = Check.talking("M00E990");
        for (int bites = 0; bites <= 70; bites++) {
            c.due("keep(1)", x.keep(1), bites);
            x.bite();
        }
    }

    static void promise28_aNewObjectCanBeKept(Check c) {
        MustardTreaty x = new MustardTreaty();
        c.due("keep(0)", x.keep(0), 0);
        c.due("again(0)", x.again(0), 0);
        c.due("again(1)", x.again(1), LATE);
    }

    static void promise28_eachSlotKeepsForItself(Check c) {
        MustardTreaty x = Check.talking("M90E990");
        x.keep(0);
        x.bite();
        x.keep(1);
        x.bite();
        c.due("again(0)", x.again(0), 0);
        c.due("again(1)", x.again(1), 1);
        c.due("again(0) once more", x.again(0), 0);
    }

    static void promise28_aSlotIsKeptAnew(Check c) {
        MustardTreaty x = Check.talking("M90E990");
        x.keep(0);
        x.bite();
        c.due("keep(0) once more", x.keep(0), 1);
        x.bite();
        c.due("again(0)", x.again(0), 1);
        c.due("HEAT", x.about(2), 8);
    }

    static void promise28_nothingIsChangedButTheSlot(Check c) {
        for (int slot = 0; slot <= 1; slot++) {
            MustardTreaty x = Edges.busy();
            String was = Check.seenOf(x);
            c.due("keep(" + slot + ")", x.keep(slot), 1);
            c.holds("all is as it was", Check.seenOf(x).equals(was));
            c.due("ACTS", x.about(8), 5);
            c.due("undo()", x.undo(), 4);
            c.due("THE SEED", x.seed(0), 12345);
        }
    }

    // ---- 29: again

    static void promise29_slotsAre0And1(Check c) {
        Edges.onlyThere(c, MustardTreaty::new, 2, (x, slot) -> x.again(slot));
        Edges.onlyThere(c, Edges::busy, 2, (x, slot) -> x.again(slot));
    }

    static void promise29_itIsLateWhenNoneWereKept(Check c) {
        MustardTreaty x = Check.talking("M90E990");
        c.due("again(0)", x.again(0), LATE);
        c.due("again(1)", x.again(1), LATE);
        x.keep(1);
        c.due("again(0), only 1 was kept", x.again(0), LATE);
        c.due("again(1)", x.again(1), 0);
        MustardTreaty y = Check.talking("M90E990");
        y.keep(0);
        c.due("again(1), only 0 was kept", y.again(1), LATE);
    }

    static void promise29_unknownIsToldAheadOfLate(Check c) {
        MustardTreaty x = new MustardTreaty();
        c.due("again(-1)", x.again(-1), UNKNOWN);
        c.due("again(2)", x.again(2), UNKNOWN);
        c.due("again(1)", x.again(1), LATE);
    }

    static void promise29_whatIsRefusedChangesNothing(Check c) {
        Edges.refused(c, UNKNOWN, "again(-1)", x -> x.again(-1));
        Edges.refused(c, UNKNOWN, "again(2)", x -> x.again(2));
        Edges.changesNothing(c, Edges::over, LATE, "again(0)", x -> x.again(0));
        Edges.changesNothing(c, Edges::over, LATE, "again(1)", x -> x.again(1));
    }

    static void promise29_aTalkForgetsWhatWasKeptButARefusedOneDoesNot(Check c) {
        MustardTreaty x = Check.talking("M90E990");
        x.keep(0);
        x.write('E');
        c.due("talk() with a fault", x.talk(), LATE);
        c.due("again(0)", x.again(0), 0);
        Check.tell(x, "M90E990");
        x.talk();
        c.due("again(0) behind talk()", x.again(0), LATE);
    }

    /** Each is kept, changed and gone on from: what about(what), or envoy(0, what - 100), tells is as it was. */
    private static void comesBack(Check c, String talk, Edges.Call change, int what) {
        for (int slot = 0; slot <= 1; slot++) {
            MustardTreaty x = Check.talking(talk);
            int was = told(x, what);
            x.keep(slot);
            change.on(x);
            c.holds(what + " is changed", told(x, what) != was);
            c.due("again(" + slot + ")", x.again(slot), 0);
            c.due(what + " is as it was kept", told(x, what), was);
        }
    }

    private static int told(MustardTreaty x, int what) {
        return what >= 100 ? x.envoy(0, what - 100) : x.about(what);
    }

    static void promise29_heatComesBack(Check c) {
        comesBack(c, "M91E990", x -> x.bite(), 2);
        comesBack(c, "M81E990", x -> x.spice(), 2);
    }

    static void promise29_seedComesBack(Check c) {
        comesBack(c, "M91E990", x -> x.spice(), 3);
    }

    static void promise29_tearsComeBack(Check c) {
        comesBack(c, "M90E090", x -> x.bite(), 103);
    }

    static void promise29_whoEatsComesBack(Check c) {
        comesBack(c, "M90E010", x -> x.bite(), 4);
    }

    static void promise29_whoHadBreadComesBack(Check c) {
        comesBack(c, "M90E010", x -> x.bread(0), 105);
    }

    static void promise29_whatIsBoundComesBack(Check c) {
        comesBack(c, "M90E010C100", x -> x.say(0), 5);
    }

    static void promise29_bitesComeBack(Check c) {
        comesBack(c, "M00E010", x -> x.bite(), 6);
    }

    static void promise29_whatWasChangedWhenItWasKeptIsChangedAgain(Check c) {
        MustardTreaty x = Check.talking("M92E010E090C100C101");
        x.bread(1);
        x.say(1);
        x.bite();
        x.spice();
        x.keep(0);
        String was = withoutActs(x);
        x.undo();
        x.undo();
        x.undo();
        x.undo();
        c.due("again(0)", x.again(0), 1);
        int[] want = {2, 2, 9, 1, 2, 2, 1, 0, 0, 0, 19};
        for (int what = 0; what <= 10; what++) {
            c.due("about(" + what + ")", x.about(what), want[what]);
        }
        c.due("TEARS of 0", x.envoy(0, 3), 9);
        c.due("TEARS of 1", x.envoy(1, 3), 9);
        c.due("BREAD of 1", x.envoy(1, 5), 1);
        c.holds("but for the ACTS it is the same", withoutActs(x).equals(was));
    }

    /** All that can be read but ACTS, which is what about(8) tells. */
    private static String withoutActs(MustardTreaty x) {
        String[] told = Check.seenOf(x).split(" ");
        told[8] = "";
        return String.join(" ", told);
    }

    static void promise29_thereAreNoActsThen(Check c) {
        MustardTreaty x = Edges.busy();
        c.due("ACTS", x.about(8), 5);
        c.due("again(0)", x.again(0), 0);
        c.due("ACTS then", x.about(8), 0);
        c.due("undo()", x.undo(), LATE);
        c.due("BOUND stays", x.about(5), 2);
    }

    static void promise29_actsBehindItCanBeUndoneToIt(Check c) {
        MustardTreaty x = Check.talking("M00E990");
        for (int i = 0; i < 20; i++) {
            x.bite();
        }
        x.keep(0);
        c.due("again(0)", x.again(0), 20);
        for (int i = 0; i < 14; i++) {
            x.bite();
        }
        for (int left = 13; left >= 0; left--) {
            c.due("undo()", x.undo(), left);
        }
        c.due("undo() of none", x.undo(), LATE);
        c.due("BITES", x.about(6), 20);
    }

    static void promise29_itStaysKeptAndActsDoNotReachIt(Check c) {
        MustardTreaty x = Check.talking("M99E090C100");
        x.keep(1);
        for (int i = 0; i < 10; i++) {
            x.bread(0);
            x.say(0);
            x.spice();
            x.bite();
            c.due("again(1)", x.again(1), 0);
            c.due("HEAT", x.about(2), 9);
            c.due("SEED", x.about(3), 9);
            c.due("BOUND", x.about(5), 0);
            c.due("TEARS", x.envoy(0, 3), 0);
            c.due("BREAD", x.envoy(0, 5), 0);
        }
    }

    static void promise29_theTextAndSeenAndTheSeedAreNotKept(Check c) {
        MustardTreaty x = Check.talking("M90E990");
        x.keep(0);
        x.write(0);
        x.see(0, 0, 0);
        x.seed(7);
        c.due("again(0)", x.again(0), 0);
        c.due("bytes", x.about(10), 8);
        c.due("SEEN", x.about(9), 1);
        c.due("THE SEED", x.seed(0), 7);
    }
}

/** Promises 9 to 13: acts, and acts undone. */
public final class ActsTest {
    private static final Check check = new Check();
    private static final int MIN = Integer.MIN_VALUE, MAX = Integer.MAX_VALUE;

    public static void main(String[] args) {
        bites();
        saying();
        spicing();
        bread();
        undoing();
        rowOfActs();
        refusalsChangeNothing();
        check.end();
    }

    private static void bites() {
        // PALATE 4, WITS 3: 5 TEARS at 9, then 4 more at 8: 9 is 6 or more.
        MustardTreaty x = Check.talking("M90E430E991");
        check.due("bite() 1", x.bite(), 3);
        check.due("TEARS 1", x.envoy(0, 3), 5);
        check.due("HEAT 1", x.about(2), 8);
        check.due("BITES 1", x.about(6), 1);
        check.due("bite() 2", x.bite(), 2);
        check.due("TEARS 2", x.envoy(0, 3), 9);
        check.due("bite() 3", x.bite(), 2);
        check.due("no TEARS for one that EATS no more", x.envoy(0, 3), 9);
        check.due("ACTS", x.about(8), 3);

        check.due("just twice the WITS stops it", Check.talking("M20E010").bite(), 0);
        check.due("one less does not", Check.talking("M10E010").bite(), 1);

        MustardTreaty cold = Check.talking("M00E010");
        check.due("bite() of a cold pot", cold.bite(), 1);
        check.due("HEAT is 0 at least", cold.about(2), 0);

        MustardTreaty over = Check.talking("M90E010");
        check.due("the last one stops", over.bite(), 0);
        check.due("bite() when nobody EATS", over.bite(), -3);
        check.due("BITES behind a refusal", over.about(6), 1);
        check.due("HEAT behind a refusal", over.about(2), 8);
        check.due("bite() of nobody", Check.talking("M50").bite(), -3);
    }

    private static void saying() {
        MustardTreaty x = Check.talking("M60E990E010C260C360C170C201C100");
        check.due("say(0)", x.say(0), 1);
        check.due("say(0) when BOUND", x.say(0), -3);
        check.due("say(1), too long", x.say(1), -3);
        check.due("say(2), not hot enough", x.say(2), -3);
        check.due("say(4)", x.say(4), 17);
        check.due("say(3)", x.say(3), 25);
        check.due("BOUND", x.about(5), 25);
        check.due("ACTS", x.about(8), 3);
        check.due("HEAT is as it was", x.about(2), 6);
        MustardTreaty y = Check.talking("M60E990E010C201");
        y.bite();
        check.due("say(0), its ENVOY EATS no more", y.say(0), -3);
        int[] unknown = {-1, 1, 5, MIN, MAX, 32};
        for (int c : unknown) {
            check.due("say(" + c + ")", y.say(c), -1);
        }
    }

    private static void spicing() {
        MustardTreaty x = Check.talking("M63E010");
        check.due("spice() 1", x.spice(), 8);
        check.due("spice() 2", x.spice(), 9);
        check.due("spice() 3", x.spice(), 9);
        check.due("spice() without SEED", x.spice(), -3);
        check.due("SEED", x.about(3), 0);
        check.due("ACTS", x.about(8), 3);
        check.due("spice() with nobody there", Check.talking("M01").spice(), 2);
    }

    private static void bread() {
        MustardTreaty x = Check.talking("M50E090E190E910");
        x.bite();
        check.due("bread(0): 5 less 3", x.bread(0), 2);
        check.due("bread(0) once more", x.bread(0), -3);
        check.due("bread(2): 0 at least", x.bread(2), 0);
        check.due("had BREAD", x.envoy(0, 5), 1);
        check.due("had none", x.envoy(1, 5), 0);
        check.due("ACTS", x.about(8), 3);
        check.due("bread(1)", x.bread(1), 1);
        int[] unknown = {-1, 3, MIN, MAX, 32};
        for (int e : unknown) {
            check.due("bread(" + e + ")", x.bread(e), -1);
        }
        MustardTreaty y = Check.talking("M90E010E990");
        y.bite();
        check.due("bread() of one that EATS no more", y.bread(0), -3);
        check.due("its TEARS", y.envoy(0, 3), 9);
    }

    private static void undoing() {
        MustardTreaty x = Check.talking("M72E010E090E990C210C171");
        String first = Check.seenOf(x);
        check.due("undo() of none", x.undo(), -3);
        x.spice();
        String spiced = Check.seenOf(x);
        x.say(1);
        String said = Check.seenOf(x);
        x.bite();
        String bitten = Check.seenOf(x);
        x.bread(1);
        check.due("TEARS behind BREAD", x.envoy(1, 3), 6);
        check.due("undo() of BREAD", x.undo(), 3);
        check.holds("BREAD is undone", Check.seenOf(x).equals(bitten));
        check.due("undo() of a BITE", x.undo(), 2);
        check.holds("a BITE is undone", Check.seenOf(x).equals(said));
        check.due("undo() of SAID", x.undo(), 1);
        check.holds("SAID is undone", Check.seenOf(x).equals(spiced));
        check.due("undo() of SEEDED", x.undo(), 0);
        check.holds("SEEDED is undone", Check.seenOf(x).equals(first));
        check.due("undo() of none then", x.undo(), -3);
        check.due("bread can be had again", x.bread(1), 0);
    }

    private static void rowOfActs() {
        MustardTreaty x = Check.talking("M09E991C100");
        x.say(0);
        for (int i = 1; i <= 13; i++) {
            x.bite();
            check.due("ACTS with " + i + " BITES", x.about(8), i + 1);
        }
        x.bite();
        x.bite();
        check.due("ACTS are 14 at most", x.about(8), 14);
        for (int left = 13; left >= 5; left--) {
            check.due("undo()", x.undo(), left);
        }
        x.spice();
        check.due("ACTS behind undo and spice", x.about(8), 6);
        check.due("HEAT", x.about(2), 2);
        for (int left = 5; left >= 0; left--) {
            check.due("undo()", x.undo(), left);
        }
        check.due("undo() of what was forgotten", x.undo(), -3);
        check.due("BITES left", x.about(6), 1);
        check.due("BOUND stays, it was forgotten", x.about(5), 1);
        check.due("HEAT is as at first", x.about(2), 0);
    }

    private static void refusalsChangeNothing() {
        MustardTreaty x = Check.talking("M90E010C490");
        x.bite();
        String was = Check.seenOf(x);
        x.bite();
        x.say(0);
        x.say(1);
        x.spice();
        x.bread(0);
        x.bread(1);
        check.holds("refused acts change nothing", Check.seenOf(x).equals(was));
        check.due("and are no ACTS", x.undo(), 0);
    }
}

/** Promises 28 and 29: what is kept and gone on from. */
public final class SlotsTest {
    private static final Check check = new Check();

    public static void main(String[] args) {
        refusals();
        keptAndGoneOnFrom();
        twoSlots();
        check.end();
    }

    private static void refusals() {
        MustardTreaty x = Check.talking("M92E990C100");
        int[] unknown = {-1, 2, Integer.MIN_VALUE, Integer.MAX_VALUE};
        for (int slot : unknown) {
            check.due("keep(" + slot + ")", x.keep(slot), -1);
            check.due("again(" + slot + ")", x.again(slot), -1);
        }
        x.bite();
        check.due("again(0)", x.again(0), -3);
        check.due("again(1)", x.again(1), -3);
        check.due("ACTS stay if it is refused", x.about(8), 1);
        check.due("keep(0)", x.keep(0), 1);
        check.due("ACTS stay when it is kept", x.about(8), 1);
        check.due("again(1), only 0 is kept", x.again(1), -3);
    }

    private static String withoutActs(MustardTreaty x) {
        StringBuilder b = new StringBuilder();
        for (int what = 0; what <= 7; what++) {
            b.append(x.about(what)).append(' ');
        }
        for (int e = 0; e < 3; e++) {
            b.append(x.envoy(e, 3)).append(' ').append(x.envoy(e, 5)).append(' ');
        }
        return b.toString();
    }

    private static void keptAndGoneOnFrom() {
        MustardTreaty x = Check.talking("M73E010E090E990C271C202");
        x.say(0);
        x.say(1);
        x.undo();
        x.spice();
        x.bite();
        x.bread(1);
        String kept = withoutActs(x);
        check.due("keep(1)", x.keep(1), 1);
        x.bite();
        x.bite();
        x.spice();
        x.bread(2);
        x.say(1);
        x.seed(5);
        x.see(0, 1, 1);
        check.holds("it is otherwise now", !withoutActs(x).equals(kept));
        check.due("again(1)", x.again(1), 1);
        check.holds("it is as it was kept", withoutActs(x).equals(kept));
        check.due("no ACTS", x.about(8), 0);
        check.due("undo()", x.undo(), -3);
        check.due("THE SEED is not kept", x.seed(0), 5);
        check.due("SEEN is not kept", x.about(9), 1);
        x.bite();
        check.due("again(1) once more", x.again(1), 1);
        check.holds("it is still as it was kept", withoutActs(x).equals(kept));
    }

    private static void twoSlots() {
        MustardTreaty x = Check.talking("M92E990");
        x.keep(0);
        x.bite();
        check.due("keep(1)", x.keep(1), 1);
        x.bite();
        check.due("again(0)", x.again(0), 0);
        check.due("HEAT of 0", x.about(2), 9);
        check.due("again(1)", x.again(1), 1);
        check.due("HEAT of 1", x.about(2), 8);
        x.bite();
        check.due("keep(0) over what was kept", x.keep(0), 2);
        x.again(1);
        check.due("again(0)", x.again(0), 2);
    }
}

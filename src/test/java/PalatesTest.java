/** Promises 21 to 23: what was seen, and the palates by which it is so. */
public final class PalatesTest {
    private static final Check check = new Check();
    private static final int MIN = Integer.MIN_VALUE, MAX = Integer.MAX_VALUE;

    public static void main(String[] args) {
        seeing();
        palates();
        check.end();
    }

    private static void seeing() {
        MustardTreaty x = new MustardTreaty();
        int[][] bad = {{-1, 0, 0}, {4, 0, 0}, {MIN, 0, 0}, {MAX, 0, 0}, {0, -1, 0}, {0, 10, 0}, {0, MIN, 0},
            {0, MAX, 0}, {0, 0, -1}, {0, 0, 11}, {0, 0, MIN}, {0, 0, MAX}};
        for (int[] b : bad) {
            check.due("see(" + b[0] + ", " + b[1] + ", " + b[2] + ")", x.see(b[0], b[1], b[2]), -2);
        }
        check.due("SEEN", x.about(9), 0);
        check.due("see 1", x.see(0, 0, 0), 1);
        check.due("see 2", x.see(3, 9, 10), 2);
        for (int i = 3; i <= 6; i++) {
            check.due("see " + i, x.see(2, 9, 10), i);
        }
        check.due("see 7", x.see(0, 0, 0), -4);
        check.due("a bad one when full", x.see(0, 0, 11), -2);
        check.due("SEEN when full", x.about(9), 6);
        check.due("unsee()", x.unsee(), 6);
        check.due("unsee() of none", x.unsee(), 0);
        check.due("palates() behind unsee", x.palates(3), 1023);
        check.due("see behind unsee", x.see(1, 0, 0), 1);
        x.see(0, 9, 9);
        x.unsee();
        check.due("what was SEEN last does not count behind unsee", x.palates(0), 1023);
        x.see(1, 0, 0);
        check.due("nor behind another one", x.palates(0), 1023);
    }

    private static int palatesBy(int kind, int h, int t) {
        MustardTreaty x = new MustardTreaty();
        x.see(kind, h, t);
        return x.palates(kind);
    }

    private static void palates() {
        check.due("PLAIN 9 by 9", palatesBy(0, 9, 9), 1);
        check.due("PLAIN 5 by 0", palatesBy(0, 5, 0), 0b1111100000);
        check.due("PLAIN 5 by 6", palatesBy(0, 5, 6), 0);
        check.due("NUMB by 0", palatesBy(1, 9, 0), 1023);
        check.due("NUMB by 1", palatesBy(1, 9, 1), 0);
        check.due("WEEPER 9 by 10", palatesBy(2, 9, 10), 1);
        check.due("WEEPER 5 by 1", palatesBy(2, 5, 1), 0);
        check.due("WEEPER 5 by 2", palatesBy(2, 5, 2), 0b0000010000);
        check.due("WEEPER 5 by 0", palatesBy(2, 5, 0), 0b1111100000);
        check.due("BEER 9 by 8", palatesBy(3, 9, 8), 1);
        check.due("BEER 9 by 9", palatesBy(3, 9, 9), 0);
        check.due("BEER 5 by 0", palatesBy(3, 5, 0), 0b1111110000);
        check.due("PLAIN 0 by 0", palatesBy(0, 0, 0), 1023);
        MustardTreaty x = new MustardTreaty();
        x.see(0, 5, 0);
        x.see(0, 7, 0);
        check.due("both of a KIND", x.palates(0), 0b1110000000);
        check.due("another KIND", x.palates(3), 1023);
        x.see(2, 3, 0);
        check.due("another KIND does not count", x.palates(0), 0b1110000000);
        x.see(0, 8, 1);
        check.due("one is left", x.palates(0), 0b0010000000);
        int[] bad = {-1, 4, MIN, MAX};
        for (int kind : bad) {
            check.due("palates(" + kind + ")", x.palates(kind), -2);
        }
    }
}

/** Promises 14 to 20: how long it lasts, what can be said, what is best, shares. */
public final class HowLongTest {
    private static final Check check = new Check();
    private static final int MIN = Integer.MIN_VALUE, MAX = Integer.MAX_VALUE;

    public static void main(String[] args) {
        lasting();
        bearing();
        best();
        hot();
        spiceFor();
        judging();
        shares();
        nothingIsChanged();
        check.end();
    }

    private static void lasting() {
        check.due("lasts() of nobody", Check.talking("M90").lasts(), 0);
        check.due("lasts() 1", Check.talking("M90E010E010").lasts(), 1);
        // 9, 17, 24 TEARS: 18 is reached by the third.
        MustardTreaty x = Check.talking("M90E090E010");
        check.due("lasts() 3", x.lasts(), 3);
        x.bite();
        check.due("lasts() behind a bite", x.lasts(), 2);
        x.bite();
        x.bite();
        check.due("lasts() when it is over", x.lasts(), 0);
        check.due("lasts() of a numb one", Check.talking("M90E010E011").lasts(), -9);
        // 5, 4, 3, 2 are 14, and with 1 it is 15, never more.
        check.due("lasts() of one that stops late", Check.talking("M50E070").lasts(), 4);
        check.due("lasts() of one that just does not stop", Check.talking("M50E080").lasts(), -9);
    }

    private static void bearing() {
        MustardTreaty x = Check.talking("M90E010E090E011E082");
        check.due("bears(0)", x.bears(0), 1);
        check.due("bears(1)", x.bears(1), 3);
        check.due("bears(2)", x.bears(2), -9);
        check.due("bears(3)", x.bears(3), 2);
        int[] unknown = {-1, 4, MIN, MAX, 32};
        for (int e : unknown) {
            check.due("bears(" + e + ")", x.bears(e), -1);
        }
        x.bite();
        check.due("bears(0) when it EATS no more", x.bears(0), -3);
        check.due("bears(1) then", x.bears(1), 2);
    }

    private static void best() {
        MustardTreaty x = Check.talking("M60E990C260C360C100C300C400");
        check.due("best(1)", x.best(1, false), 8);
        check.due("best(1) row", x.best(1, true), 11);
        check.due("best(2)", x.best(2, false), 9);
        check.due("best(2) row", x.best(2, true), 113);
        check.due("best(3)", x.best(3, false), 11);
        check.due("best(3) row", x.best(3, true), 1104);
        check.due("best(4)", x.best(4, false), 12);
        check.due("best(4) row", x.best(4, true), 11034);
        check.due("best(5)", x.best(5, false), 12);
        check.due("best(5) row", x.best(5, true), 110034);
        int[] bad = {0, 6, -1, MIN, MAX};
        for (int n : bad) {
            check.due("best(" + n + ", false)", x.best(n, false), -2);
            check.due("best(" + n + ", true)", x.best(n, true), -2);
        }
        x.say(0);
        check.due("best(2) of what is not BOUND", x.best(2, false), 3);
        check.due("best(2) of what is not BOUND, row", x.best(2, true), 104);
        MustardTreaty none = Check.talking("M90E010C100");
        none.bite();
        check.due("best(5) when nobody EATS", none.best(5, false), 0);
        check.due("best(5) row when nobody EATS", none.best(5, true), 100000);
        MustardTreaty all = Check.talking("M00E990C100C100C100C100C100");
        check.due("best(5) of five", all.best(5, false), 5);
        check.due("best(5) row of five", all.best(5, true), 112345);
        check.due("best(3) row of five", all.best(3, true), 1123);
        // It EATS no more behind the bite that would make room for the long one.
        MustardTreaty hasty = Check.talking("M30E010C300C400");
        check.due("best(2) of one that stops", hasty.best(2, true), 110);
        check.due("best(2) of one that stops, how much", hasty.best(2, false), 3);
    }

    private static void hot() {
        MustardTreaty x = Check.talking("M50E020C220C100E991C441");
        // 4 TEARS stop it: from 3 on a bite gives 3 at most, then 2 at 2 make 5.
        check.due("hot(0, 0)", x.hot(0, 0), 0b0111111100);
        check.due("hot(0, 1)", x.hot(0, 1), 0b0000001000);
        check.due("hot(1, 2)", x.hot(1, 2), 0b0000000111);
        check.due("hot(1, 9)", x.hot(1, 9), 0b0000000111);
        check.due("hot(2, 0)", x.hot(2, 0), 0);
        MustardTreaty y = Check.talking("M00E991C300");
        check.due("hot(0, 9)", y.hot(0, 9), 1023);
        check.due("hot(0, 3)", y.hot(0, 3), 0b0111111111);
        y.say(0);
        check.due("hot() of a BOUND one", y.hot(0, 0), 0);
        x.bite();
        check.due("hot() of one that EATS no more", x.hot(1, 0), 0);
        int[] unknown = {-1, 3, MIN, MAX, 32};
        for (int c : unknown) {
            check.due("hot(" + c + ", 0)", x.hot(c, 0), -1);
            check.due("hot(" + c + ", 10)", x.hot(c, 10), -1);
        }
        int[] bad = {-1, 10, MIN, MAX};
        for (int n : bad) {
            check.due("hot(0, " + n + ")", x.hot(0, n), -2);
        }
        check.due("hot() of a BOUND one, bad", y.hot(0, 10), -2);
    }

    private static void spiceFor() {
        MustardTreaty x = Check.talking("M13E990C100C120C150C190C250");
        check.due("spiceFor(0)", x.spiceFor(0), 0);
        check.due("spiceFor(1)", x.spiceFor(1), 1);
        check.due("spiceFor(2)", x.spiceFor(2), 2);
        check.due("spiceFor(3), there are but 3", x.spiceFor(3), -9);
        check.due("spiceFor(4)", x.spiceFor(4), 2);
        x.spice();
        check.due("spiceFor(3) with 2 left", x.spiceFor(3), -9);
        check.due("spiceFor(2) with 2 left", x.spiceFor(2), 1);
        x.say(0);
        check.due("spiceFor() of a BOUND one", x.spiceFor(0), -3);
        int[] unknown = {-1, 5, MIN, MAX, 32};
        for (int c : unknown) {
            check.due("spiceFor(" + c + ")", x.spiceFor(c), -1);
        }
        check.due("4 are enough", Check.talking("M14E990C190").spiceFor(0), 4);
        check.due("9 at most", Check.talking("M82E990C190").spiceFor(0), 1);
        check.due("too long when hot enough", Check.talking("M09E990C460").spiceFor(0), -9);
        MustardTreaty over = Check.talking("M99E010C100");
        over.bite();
        check.due("spiceFor() when it EATS no more", over.spiceFor(0), -9);
    }

    private static void judging() {
        MustardTreaty x = Check.talking("M51E290C200C170");
        check.due("judge(1, 0)", x.judge(1, 0), -9);
        check.due("judge(1, 1)", x.judge(1, 1), -9);
        check.due("judge(1, 2)", x.judge(1, 2), 0);
        check.due("judge(1, 3)", x.judge(1, 3), 0);
        check.due("judge(2, 62)", x.judge(2, 62), -9);
        check.due("judge(2, 66)", x.judge(2, 66), 1);
        check.due("judge(2, 11)", x.judge(2, 11), 1);
        check.due("judge(3, 602)", x.judge(3, 602), 2);
        check.due("judge(6, 777777)", x.judge(6, 777777), -9);
        check.due("judge(6, 7)", x.judge(6, 7), -9);
        check.due("judge(6, 762105)", x.judge(6, 762105), 5);
        check.due("judge(4, 5)", x.judge(4, 5), 3);
        MustardTreaty hot = Check.talking("M90E010");
        check.due("judge(2, 0), nobody EATS then", hot.judge(2, 0), 1);
        check.due("judge(2, 7)", hot.judge(2, 7), -9);
        int[][] bad = {{0, 0}, {7, 0}, {-1, 0}, {MIN, 0}, {MAX, 0}, {1, 8}, {1, 9}, {1, 10}, {2, 80}, {2, 100},
            {6, 1000000}, {6, 777778}, {6, 877777}, {6, -1}, {1, -1}, {3, MIN}, {3, MAX}, {6, 700900}};
        for (int[] b : bad) {
            check.due("judge(" + b[0] + ", " + b[1] + ")", x.judge(b[0], b[1]), -2);
        }
    }

    private static void share(MustardTreaty x, int envoy, int above, int below) {
        check.due("share(" + envoy + ", true)", x.share(envoy, true), above);
        check.due("share(" + envoy + ", false)", x.share(envoy, false), below);
    }

    private static void shares() {
        // Of three worth 3, 2, 1 only two can be said in two turns, and 8/3, 5/3, 2/3 come to 5.
        MustardTreaty x = Check.talking("M20E990E990E990C120C111C102");
        share(x, 0, 8, 3);
        share(x, 1, 5, 3);
        share(x, 2, 2, 3);
        MustardTreaty one = Check.talking("M30E990C120C200C100");
        share(one, 0, 5, 1);
        one.say(0);
        share(one, 0, 3, 1);
        MustardTreaty four = Check.talking("M00E990E990E990E990C100C101C102C103");
        share(four, 0, 1, 2);
        share(four, 3, 1, 2);
        MustardTreaty full = Check.talking("M00E990E990E990E990C100C100C101C102C103");
        // Two can be said: who has two gains 2 as the first, 1 as the second; the rest is shared alike.
        share(full, 0, 3, 4);
        share(full, 1, 5, 12);
        share(full, 3, 5, 12);
        MustardTreaty idle = Check.talking("M00E990E990C100");
        share(idle, 1, 0, 1);
        share(idle, 0, 1, 1);
        int[] unknown = {-1, 2, MIN, MAX, 32};
        for (int e : unknown) {
            check.due("share(" + e + ", true)", idle.share(e, true), -1);
            check.due("share(" + e + ", false)", idle.share(e, false), -1);
        }
    }

    private static void nothingIsChanged() {
        MustardTreaty x = Check.talking("M64E530E252C260C301");
        x.bite();
        x.say(1);
        String was = Check.seenOf(x);
        x.lasts();
        x.bears(0);
        x.best(5, true);
        x.hot(0, 3);
        x.spiceFor(0);
        x.judge(6, 607000);
        x.share(1, true);
        x.rests(0, 1, 0);
        x.chance(1, 6, 3, true);
        x.talks(30);
        check.holds("what is asked changes nothing", Check.seenOf(x).equals(was));
    }
}

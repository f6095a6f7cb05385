/** Promises 1 to 8: a new object, the text, the talk and what it tells. */
public final class TalkTest {
    private static final Check check = new Check();
    private static final int MIN = Integer.MIN_VALUE, MAX = Integer.MAX_VALUE;

    public static void main(String[] args) {
        newObject();
        writing();
        faults();
        talking();
        talkMadeAnew();
        about();
        envoys();
        clauses();
        check.end();
    }

    private static void newObject() {
        MustardTreaty x = new MustardTreaty();
        for (int what = 0; what <= 10; what++) {
            check.due("new: about(" + what + ")", x.about(what), 0);
        }
        check.due("new: envoy(0, 0)", x.envoy(0, 0), -1);
        check.due("new: clause(0, 0)", x.clause(0, 0), -1);
        check.due("new: undo()", x.undo(), -3);
        check.due("new: lasts()", x.lasts(), 0);
        check.due("new: best(1, true)", x.best(1, true), 10);
        check.due("new: again(0)", x.again(0), -3);
        check.due("new: again(1)", x.again(1), -3);
        check.due("new: keep(0)", x.keep(0), 0);
        check.due("new: again(0) behind keep", x.again(0), 0);
        check.due("new: seed(7)", x.seed(7), 0);
        check.due("new: unsee()", x.unsee(), 0);
        check.due("new: palates(3)", x.palates(3), 1023);
        check.due("new: fault()", x.fault(), 0);
    }

    private static void writing() {
        MustardTreaty x = new MustardTreaty();
        int[] bad = {-1, 256, MIN, MAX};
        for (int letter : bad) {
            check.due("write(" + letter + ")", x.write(letter), -2);
        }
        check.due("bytes behind bad ones", x.about(10), 0);
        for (int i = 1; i <= 48; i++) {
            check.due("write " + i, x.write(i % 2 == 0 ? 0 : 255), i);
        }
        check.due("write the 49th", x.write(77), -4);
        check.due("write a bad 49th", x.write(256), -2);
        check.due("bytes when full", x.about(10), 48);
        check.due("wipe of 48", x.wipe(), 48);
        check.due("wipe of 0", x.wipe(), 0);
        check.due("bytes behind wipe", x.about(10), 0);
        check.due("write behind wipe", x.write(0), 1);
    }

    private static void fault(String text, int want) {
        MustardTreaty x = new MustardTreaty();
        Check.tell(x, text);
        check.due("fault() of " + text, x.fault(), want);
        check.due("talk() of " + text, x.talk() < 0 ? -3 : 0, want == -9 ? 0 : -3);
    }

    private static void faults() {
        fault("", 0);
        fault("m", 0);
        fault("M", 1);
        fault("M/", 1);
        fault("M:", 1);
        fault("M0", 2);
        fault("M0 ", 2);
        fault("M00", -9);
        fault("M99", -9);
        fault("M00e", 3);
        fault("M00C", 3);
        fault("M00X", 3);
        fault("M00M", 3);
        fault("M00E", 4);
        fault("M00E9", 5);
        fault("M00E99", 6);
        fault("M00E993", -9);
        fault("M00E994", 6);
        fault("M00E90", 5);
        fault("M00E9:", 5);
        fault("M00E/", 4);
        fault("M00E:", 4);
        fault("M00E010C", 8);
        fault("M00E010C0", 8);
        fault("M00E010C5", 8);
        fault("M00E010C4", 9);
        fault("M00E010C49", 10);
        fault("M00E010C490", -9);
        fault("M00E010C491", 10);
        fault("M00E010C49/", 10);
        fault("M00E010C4:0", 9);
        fault("M00E010E010C111", -9);
        fault("M00E010E010C112", 14);
        fault("M00E010C101E010", 10);
        fault("M00E010C100E010C101", -9);
        String four = "M00E010E010E010E010";
        fault(four, -9);
        fault(four + "E", 19);
        fault(four + "C103", -9);
        fault(four + "C104", 22);
        String five = "C100C101C102C103C100";
        fault(four + five, -9);
        fault(four + five + "C", 39);
        fault(four + five + "E", 39);
        fault(four + five + "\0", 39);
        fault(four + five + "000000000", 39);
        fault("M00E010C100C100C100C100C100C", 27);
        fault((char) 205 + "00", 0);
    }

    private static void talking() {
        MustardTreaty x = new MustardTreaty();
        check.due("talk() of nothing", x.talk(), -3);
        Check.tell(x, "M00");
        check.due("talk() of M00", x.talk(), 0);
        Check.tell(x, "M00E010E010E010E010C100C101C102C103C100");
        check.due("talk() of the longest", x.talk(), 45);
        Check.tell(x, "M37E010");
        check.due("talk() of one", x.talk(), 10);
        check.due("HEAT", x.about(2), 3);
        check.due("SEED", x.about(3), 7);
        check.due("the text stays", x.about(10), 7);
        check.due("the ones before are gone", x.envoy(1, 0), -1);
        check.due("the clauses before are gone", x.clause(0, 0), -1);
        Check.tell(x, "M88E");
        check.due("talk() with a fault", x.talk(), -3);
        check.due("HEAT behind a refusal", x.about(2), 3);
        check.due("ENVOYS behind a refusal", x.about(0), 1);
    }

    private static void talkMadeAnew() {
        MustardTreaty x = Check.talking("M92E010E990C110");
        x.seed(42);
        x.see(0, 5, 5);
        check.due("say(0)", x.say(0), 1);
        check.due("bread(1)", x.bread(1), 0);
        check.due("bite()", x.bite(), 2);
        x.spice();
        x.keep(0);
        x.keep(1);
        check.due("talk() again", x.talk(), 21);
        int[] want = {2, 1, 9, 2, 3, 0, 0, 1, 0, 1, 15};
        for (int what = 0; what <= 10; what++) {
            check.due("made anew: about(" + what + ")", x.about(what), want[what]);
        }
        check.due("made anew: TEARS", x.envoy(0, 3), 0);
        check.due("made anew: BREAD", x.envoy(1, 5), 0);
        check.due("made anew: again(0)", x.again(0), -3);
        check.due("made anew: again(1)", x.again(1), -3);
        check.due("made anew: undo()", x.undo(), -3);
        check.due("made anew: THE SEED stays", x.seed(0), 42);
        check.due("made anew: SEEN stays", x.palates(0), 1);
        x.keep(0);
        Check.tell(x, "M");
        check.due("refused talk()", x.talk(), -3);
        check.due("what was kept stays if it is refused", x.again(0), 0);
    }

    private static void about() {
        MustardTreaty x = Check.talking("M63E010E910E990C261C160C301");
        int[] want = {3, 3, 6, 3, 7, 0, 0, 3, 0, 0, 27};
        for (int what = 0; what <= 10; what++) {
            check.due("about(" + what + ")", x.about(what), want[what]);
        }
        x.say(1);
        x.bite();
        x.see(1, 1, 1);
        int[] then = {3, 3, 5, 3, 6, 2, 1, 4, 2, 1, 27};
        for (int what = 0; what <= 10; what++) {
            check.due("then about(" + what + ")", x.about(what), then[what]);
        }
        int[] bad = {-1, 11, MIN, MAX};
        for (int what : bad) {
            check.due("about(" + what + ")", x.about(what), -2);
        }
        sayableByWords();
    }

    private static void sayableByWords() {
        int[] words = {4, 4, 4, 3, 3, 3, 2, 2, 2, 1};
        for (int heat = 0; heat <= 9; heat++) {
            MustardTreaty x = Check.talking("M" + heat + "0E990C100C200C300C400");
            check.due("what can be SAID at " + heat, x.about(7), (1 << words[heat]) - 1);
        }
        for (int heat = 0; heat <= 9; heat++) {
            MustardTreaty x = Check.talking("M" + heat + "0E990C150");
            check.due("hot enough at " + heat, x.about(7), heat >= 5 ? 1 : 0);
        }
    }

    private static void envoys() {
        MustardTreaty x = Check.talking("M60E530E291E252E443");
        int[][] want = {{5, 3, 0, 0, 1, 0}, {2, 9, 1, 0, 0, 0}, {2, 5, 2, 0, 5, 0}, {4, 4, 3, 0, 1, 0}};
        for (int e = 0; e < 4; e++) {
            for (int what = 0; what <= 5; what++) {
                check.due("envoy(" + e + ", " + what + ")", x.envoy(e, what), want[e][what]);
            }
            check.due("envoy(" + e + ", 6)", x.envoy(e, 6), -2);
            check.due("envoy(" + e + ", -1)", x.envoy(e, -1), -2);
        }
        x.bite();
        x.bread(2);
        check.due("TEARS", x.envoy(2, 3), 2);
        check.due("BREAD", x.envoy(2, 5), 1);
        check.due("no BREAD", x.envoy(1, 5), 0);
        check.due("PAIN at 5", x.envoy(2, 4), 4);
        int[] unknown = {-1, 4, MIN, MAX};
        for (int e : unknown) {
            check.due("envoy(" + e + ", 0)", x.envoy(e, 0), -1);
            check.due("envoy(" + e + ", 9)", x.envoy(e, 9), -1);
        }
        pains();
    }

    private static void pains() {
        int[][] want = {{0, 0, 1, 6}, {0, 0, 0, 0}, {0, 0, 2, 7}, {0, 0, 0, 5}};
        int[] heats = {2, 3, 4, 9};
        for (int kind = 0; kind <= 3; kind++) {
            for (int i = 0; i < heats.length; i++) {
                MustardTreaty x = Check.talking("M" + heats[i] + "0E39" + kind);
                check.due("PAIN of KIND " + kind + " at " + heats[i], x.envoy(0, 4), want[kind][i]);
            }
        }
        check.due("PAIN of BEER by 2", Check.talking("M50E393").envoy(0, 4), 1);
        MustardTreaty stopped = Check.talking("M90E010");
        stopped.bite();
        check.due("PAIN of one that EATS no more", stopped.envoy(0, 4), 8);
    }

    private static void clauses() {
        MustardTreaty x = Check.talking("M00E010E010C491C100C230C351C110");
        int[][] want = {{4, 9, 1, 13}, {1, 0, 0, 1}, {2, 3, 0, 5}, {3, 5, 1, 8}, {1, 1, 0, 2}};
        for (int c = 0; c < 5; c++) {
            for (int what = 0; what <= 3; what++) {
                check.due("clause(" + c + ", " + what + ")", x.clause(c, what), want[c][what]);
            }
            check.due("clause(" + c + ", 4)", x.clause(c, 4), -2);
            check.due("clause(" + c + ", -1)", x.clause(c, -1), -2);
        }
        int[] unknown = {-1, 5, MIN, MAX};
        for (int c : unknown) {
            check.due("clause(" + c + ", 0)", x.clause(c, 0), -1);
            check.due("clause(" + c + ", 7)", x.clause(c, 7), -1);
        }
    }
}

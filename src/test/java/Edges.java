import java.lang.reflect.Method;
import java.util.ArrayList;
import java.util.Comparator;
import java.util.List;
import java.util.Set;
import java.util.TreeSet;
import java.util.function.Supplier;

/** Runs boundary cases, each a test of its own that bears the number of its promise, and compares whole objects. */
final class Edges {
    static final int MIN = Integer.MIN_VALUE, MAX = Integer.MAX_VALUE;
    /** Four ENVOYS that bear all, and five CLAUSES that can be SAID in a cold pot: the longest TALK, 39 bytes. */
    static final String LONGEST = "M00E990E990E990E990C100C101C102C103C100";

    interface Call {
        long on(MustardTreaty x);
    }

    /** A call that names an ENVOY, a CLAUSE or a SLOT by its number. */
    interface NumberedCall {
        long on(MustardTreaty x, int number);
    }

    private Edges() { }

    /** Every method named promiseNN_... is a test; each promise of first .. last must have one. */
    static void run(Class<?> tests, int first, int last) {
        List<Method> methods = new ArrayList<>();
        Set<Integer> without = new TreeSet<>();
        for (int promise = first; promise <= last; promise++) {
            without.add(promise);
        }
        for (Method m : tests.getDeclaredMethods()) {
            if (m.getName().matches("promise\\d\\d_.*")) {
                methods.add(m);
                without.remove(Integer.valueOf(m.getName().substring(7, 9)));
            }
        }
        methods.sort(Comparator.comparing(Method::getName));
        int failed = 0;
        for (Method m : methods) {
            failed += passes(m) ? 0 : 1;
        }
        System.out.println(methods.size() + " boundary cases, " + failed + " failed; promises without one: " + without);
        if (failed > 0 || !without.isEmpty()) {
            System.exit(1);
        }
    }

    private static boolean passes(Method test) {
        Check check = new Check();
        boolean ended = true;
        try {
            test.invoke(null, check);
        } catch (ReflectiveOperationException e) {
            ended = false;
            System.out.println("thrown: " + (e.getCause() == null ? e : e.getCause()));
        }
        boolean passed = ended && check.allAsDue();
        if (!passed) {
            System.out.println("FAILED: " + test.getName());
        }
        return passed;
    }

    /** Something of everything: ACTS of each kind, one who EATS no more, both SLOTS, SEEN, THE SEED, another text. */
    static MustardTreaty busy() {
        MustardTreaty x = Check.talking("M83E010E290E991E443C160C281C300C402C103");
        x.say(1);
        x.keep(0);
        x.bite();
        x.keep(1);
        x.bread(1);
        x.spice();
        x.say(4);
        x.see(0, 7, 4);
        x.see(2, 5, 0);
        x.seed(12345);
        Check.tell(x, "M45E113C120");
        return x;
    }

    /** Nobody EATS, there is no SEED, no ACT is left that was not the BITE, nothing was kept. */
    static MustardTreaty over() {
        MustardTreaty x = Check.talking("M90E010C100");
        x.bite();
        return x;
    }

    /** All that an object holds, as later calls tell it; the object is used up by it. */
    static String wholeOf(MustardTreaty x) {
        StringBuilder b = new StringBuilder(Check.seenOf(x));
        b.append(" seed ").append(x.seed(0));
        for (int left = x.about(8); left > 0; left--) {
            b.append(" undo ").append(x.undo()).append(tableOf(x));
        }
        for (int slot = 0; slot <= 1; slot++) {
            b.append(" again ").append(x.again(slot)).append(tableOf(x));
        }
        b.append(" talk ").append(x.talk()).append(' ').append(Check.seenOf(x));
        return b.toString();
    }

    private static String tableOf(MustardTreaty x) {
        StringBuilder b = new StringBuilder(" at");
        for (int what = 2; what <= 8; what++) {
            b.append(' ').append(x.about(what));
        }
        int envoys = x.about(0);
        for (int e = 0; e < envoys; e++) {
            b.append(' ').append(x.envoy(e, 3)).append(' ').append(x.envoy(e, 5));
        }
        return b.toString();
    }

    /** The call answers as due, and leaves the object as one on which it was not called. */
    static void changesNothing(Check check, Supplier<MustardTreaty> maker, int want, String name, Call call) {
        MustardTreaty called = maker.get();
        check.due(name, call.on(called), want);
        check.due(name + " once more", call.on(called), want);
        check.holds(name + " changes nothing", wholeOf(called).equals(wholeOf(maker.get())));
    }

    /** Of a busy object. */
    static void refused(Check check, int want, String name, Call call) {
        changesNothing(check, Edges::busy, want, name, call);
    }

    /** A question changes nothing, whatever its answer. */
    static void asks(Check check, String name, Call call) {
        MustardTreaty asked = busy();
        call.on(asked);
        check.holds(name + " changes nothing", wholeOf(asked).equals(wholeOf(busy())));
    }

    /** Of none to four ENVOYS just those that are there are known. */
    static void onlyEnvoysThere(Check check, NumberedCall call) {
        for (int there = 0; there <= 4; there++) {
            String talk = LONGEST.substring(0, 3 + 4 * there);
            onlyThere(check, () -> Check.talking(talk), there, call);
        }
    }

    /** Of none to five CLAUSES just those that are there are known. */
    static void onlyClausesThere(Check check, NumberedCall call) {
        for (int there = 0; there <= 5; there++) {
            String talk = LONGEST.substring(0, 19 + 4 * there);
            onlyThere(check, () -> Check.talking(talk), there, call);
        }
    }

    /** The numbers 0 .. there - 1 are known, and those on both sides are not; a shift would wrap at 32. */
    static void onlyThere(Check check, Supplier<MustardTreaty> maker, int there, NumberedCall call) {
        for (int number = 0; number < there; number++) {
            check.holds(number + " of " + there + " is known", call.on(maker.get(), number) != MustardTreaty.UNKNOWN);
        }
        int[] unknown = {-1, there, there + 1, 32, 32 + there, -32, MIN, MAX};
        for (int number : unknown) {
            check.due(number + " of " + there, call.on(maker.get(), number), MustardTreaty.UNKNOWN);
        }
    }
}

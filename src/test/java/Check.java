/** Counts the answers that are not as due, and tells a text to an object. */
final class Check {
    private int right = 0;
    private int wrong = 0;

    void due(String call, long got, long want) {
        if (got == want) {
            right++;
        } else {
            wrong++;
            System.out.println(call + " answered " + got + ", due is " + want);
        }
    }

    void holds(String what, boolean so) {
        if (so) {
            right++;
        } else {
            wrong++;
            System.out.println("does not hold: " + what);
        }
    }

    /** Whether there were answers, and each as due. */
    boolean allAsDue() {
        return right > 0 && wrong == 0;
    }

    void end() {
        System.out.println(right + " as due, " + wrong + " not");
        if (wrong != 0) {
            System.exit(1);
        }
    }

    static void tell(MustardTreaty x, String text) {
        x.wipe();
        for (int i = 0; i < text.length(); i++) {
            x.write(text.charAt(i));
        }
    }

    /** A new object with this talk; the text must be one. */
    static MustardTreaty talking(String text) {
        MustardTreaty x = new MustardTreaty();
        tell(x, text);
        if (x.talk() < 0) {
            throw new IllegalStateException("no talk: " + text);
        }
        return x;
    }

    /** All that can be read without changing anything, for 'what is refused changes nothing'. */
    static String seenOf(MustardTreaty x) {
        StringBuilder b = new StringBuilder();
        for (int what = 0; what <= 10; what++) {
            b.append(x.about(what)).append(' ');
        }
        int envoys = x.about(0);
        for (int e = 0; e < envoys; e++) {
            for (int what = 0; what <= 5; what++) {
                b.append(x.envoy(e, what)).append(' ');
            }
        }
        int clauses = x.about(1);
        for (int c = 0; c < clauses; c++) {
            for (int what = 0; what <= 3; what++) {
                b.append(x.clause(c, what)).append(' ');
            }
        }
        for (int kind = 0; kind <= 3; kind++) {
            b.append(x.palates(kind)).append(' ');
        }
        return b.append(x.fault()).toString();
    }
}

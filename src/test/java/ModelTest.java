import java.util.Random;

/** Promises 1 to 29 in runs of calls drawn by a fixed seed, each answer compared with the model's. */
public final class ModelTest {
    private static final int RUNS = 1500;
    private static final int MOST_CALLS = 512;
    private static final int[] WILD = {Integer.MIN_VALUE, Integer.MAX_VALUE, -1, -2, 31, 32, 33, 64, 100, 1 << 16};

    private final Check check = new Check();
    private final Random random = new Random(20261118);
    private MustardTreaty x;
    private Model model;
    private int run;
    private int calls;

    public static void main(String[] args) {
        new ModelTest().runAll();
    }

    private void runAll() {
        for (run = 0; run < RUNS; run++) {
            x = new MustardTreaty();
            model = new Model();
            calls = 0;
            int most = 60 + random.nextInt(MOST_CALLS - 200);
            if (random.nextInt(20) > 0) {
                tell(randomTalk());
                due("talk()", x.talk(), model.talk());
            }
            while (calls < most) {
                oneCall();
            }
            wholeState();
        }
        check.end();
    }

    private void due(String call, long got, long want) {
        calls++;
        if (calls <= MOST_CALLS) {
            check.due("run " + run + ", call " + calls + ": " + call, got, want);
        }
    }

    private void wholeState() {
        for (int what = 0; what <= 10; what++) {
            due("about(" + what + ")", x.about(what), model.about(what));
        }
        for (int e = 0; e < 4; e++) {
            for (int what = 3; what <= 5; what++) {
                due("envoy(" + e + ", " + what + ")", x.envoy(e, what), model.envoy(e, what));
            }
        }
    }

    private void tell(String text) {
        due("wipe()", x.wipe(), model.wipe());
        for (char c : text.toCharArray()) {
            due("write(" + (int) c + ")", x.write(c), model.write(c));
        }
    }

    private String randomTalk() {
        StringBuilder b = new StringBuilder("M");
        b.append(random.nextInt(3) == 0 ? random.nextInt(10) : 4 + random.nextInt(6)).append(random.nextInt(10));
        int envoys = random.nextInt(5), clauses = random.nextInt(6), told = 0;
        while (envoys + clauses > 0) {
            boolean isEnvoy = envoys > 0 && (told == 0 || clauses == 0 || random.nextInt(3) > 0);
            if (isEnvoy) {
                b.append('E').append(random.nextInt(10)).append(1 + random.nextInt(9)).append(random.nextInt(4));
                envoys--;
                told++;
            } else if (told > 0) {
                int heat = random.nextInt(random.nextBoolean() ? 10 : 5);
                b.append('C').append(1 + random.nextInt(4)).append(heat).append(random.nextInt(told));
                clauses--;
            } else {
                break;
            }
        }
        return b.toString();
    }

    private String spoiled(String text) {
        StringBuilder b = new StringBuilder(text);
        for (int i = random.nextInt(3); i > 0 && b.length() > 0; i--) {
            String letters = "MEC0123456789/:D\0";
            b.setCharAt(random.nextInt(b.length()), letters.charAt(random.nextInt(letters.length())));
        }
        if (random.nextBoolean()) {
            b.setLength(random.nextInt(b.length() + 1));
        } else if (random.nextBoolean()) {
            b.append(random.nextBoolean() ? "E990" : "C100");
        }
        return b.toString();
    }

    /** Mostly in the range, sometimes beside it, sometimes far out. */
    private int near(int least, int most) {
        int way = random.nextInt(24);
        if (way == 0) {
            return WILD[random.nextInt(WILD.length)];
        }
        if (way == 1) {
            return random.nextBoolean() ? least - 1 : most + 1;
        }
        return least + random.nextInt(most - least + 1);
    }

    private int anEnvoy() {
        return near(0, Math.max(0, model.about(0) - 1));
    }

    private int aClause() {
        return near(0, Math.max(0, model.about(1) - 1));
    }

    private void oneCall() {
        int way = random.nextInt(100);
        if (way < 45) {
            anAct();
        } else if (way < 65) {
            aQuestion();
        } else if (way < 80) {
            aChance();
        } else if (way < 95) {
            aLook();
        } else {
            aText();
        }
    }

    private void anAct() {
        switch (random.nextInt(9)) {
            case 0, 1, 2 -> due("bite()", x.bite(), model.bite());
            case 3, 4 -> {
                int c = aClause();
                due("say(" + c + ")", x.say(c), model.say(c));
            }
            case 5 -> due("spice()", x.spice(), model.spice());
            case 6 -> {
                int e = anEnvoy();
                due("bread(" + e + ")", x.bread(e), model.bread(e));
            }
            case 7 -> {
                for (int i = random.nextInt(6); i >= 0; i--) {
                    due("undo()", x.undo(), model.undo());
                }
            }
            default -> {
                int slot = near(0, 1);
                boolean keeps = random.nextBoolean();
                due((keeps ? "keep(" : "again(") + slot + ")", keeps ? x.keep(slot) : x.again(slot),
                    keeps ? model.keep(slot) : model.again(slot));
            }
        }
    }

    private void aQuestion() {
        int e = anEnvoy(), c = aClause();
        boolean yes = random.nextBoolean();
        switch (random.nextInt(7)) {
            case 0 -> due("lasts()", x.lasts(), model.lasts());
            case 1 -> due("bears(" + e + ")", x.bears(e), model.bears(e));
            case 2 -> {
                int n = near(1, 5);
                due("best(" + n + ", " + yes + ")", x.best(n, yes), model.best(n, yes));
            }
            case 3 -> {
                int n = near(0, 9);
                due("hot(" + c + ", " + n + ")", x.hot(c, n), model.hot(c, n));
            }
            case 4 -> due("spiceFor(" + c + ")", x.spiceFor(c), model.spiceFor(c));
            case 5 -> {
                int n = near(1, 6), row = aRow(n);
                due("judge(" + n + ", " + row + ")", x.judge(n, row), model.judge(n, row));
            }
            default -> due("share(" + e + ", " + yes + ")", x.share(e, yes), model.share(e, yes));
        }
    }

    private int aRow(int n) {
        if (random.nextInt(12) == 0) {
            return near(0, 1000000);
        }
        int row = 0;
        for (int i = 0; i < Math.min(n, 6); i++) {
            int[] likely = {0, 6, 7, 7, 0, random.nextInt(8), random.nextInt(8), random.nextInt(8)};
            row = 10 * row + likely[random.nextInt(8)];
        }
        return row;
    }

    private void aChance() {
        int e = anEnvoy(), other = anEnvoy();
        boolean yes = random.nextBoolean();
        switch (random.nextInt(4)) {
            case 0 -> {
                int what = near(0, 1);
                due("rests(" + e + ", " + other + ", " + what + ")", x.rests(e, other, what),
                    model.rests(e, other, what));
            }
            case 1 -> {
                int n = near(1, 6), tenths = near(0, 10);
                due("chance(" + e + ", " + n + ", " + tenths + ", " + yes + ")", x.chance(e, n, tenths, yes),
                    model.chance(e, n, tenths, yes));
            }
            case 2 -> {
                long v = yes ? random.nextLong() : random.nextInt(20) - 10;
                due("seed(" + v + ")", x.seed(v), model.seed(v));
            }
            default -> {
                int m = near(1, 30);
                due("talks(" + m + ")", x.talks(m), model.talks(m));
            }
        }
    }

    private void aLook() {
        int kind = near(0, 3);
        switch (random.nextInt(8)) {
            case 0, 1 -> {
                int h = near(0, 9);
                boolean fits = random.nextInt(4) > 0;
                int t = fits && h >= 0 && h <= 9
                    ? new Model.Envoy(random.nextInt(10), 1, Math.floorMod(kind, 4)).pain(h) : near(0, 10);
                due("see(" + kind + ", " + h + ", " + t + ")", x.see(kind, h, t), model.see(kind, h, t));
            }
            case 2 -> {
                if (random.nextInt(3) == 0) {
                    due("unsee()", x.unsee(), model.unsee());
                }
            }
            case 3 -> due("palates(" + kind + ")", x.palates(kind), model.palates(kind));
            case 4 -> {
                int what = near(0, 10);
                due("about(" + what + ")", x.about(what), model.about(what));
            }
            case 5 -> {
                int e = anEnvoy(), what = near(0, 5);
                due("envoy(" + e + ", " + what + ")", x.envoy(e, what), model.envoy(e, what));
            }
            case 6 -> {
                int c = aClause(), what = near(0, 3);
                due("clause(" + c + ", " + what + ")", x.clause(c, what), model.clause(c, what));
            }
            default -> {
                if (random.nextInt(4) == 0) {
                    wholeState();
                }
            }
        }
    }

    private void aText() {
        switch (random.nextInt(8)) {
            case 0 -> tell(randomTalk());
            case 1 -> tell(spoiled(randomTalk()));
            case 2 -> due("talk()", x.talk(), model.talk());
            case 3 -> {
                int letter = near(0, 255);
                due("write(" + letter + ")", x.write(letter), model.write(letter));
            }
            default -> due("fault()", x.fault(), model.fault());
        }
    }
}

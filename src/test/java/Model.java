import java.math.BigInteger;
import java.util.ArrayDeque;
import java.util.ArrayList;
import java.util.Deque;
import java.util.List;
import java.util.regex.Pattern;

/**
 * The document once more, in the slowest and plainest way and with other means than the class
 * (texts tried out, orders gone through one by one, whole numbers without bound), to compare with.
 */
final class Model {
    record Envoy(int palate, int wits, int kind) {
        int pain(int heat) {
            if (kind == 1 || heat <= palate) {
                return 0;
            }
            int over = heat - palate;
            return kind == 2 ? over + 1 : kind == 3 ? over - 1 : over;
        }
    }

    record Clause(int words, int heat, int owner) {
        int worth() {
            return words + heat;
        }
    }

    record Sight(int kind, int heat, int tears) { }

    /** Never changed once it is made. */
    record State(int heat, int store, List<Integer> tears, List<Boolean> eats, List<Boolean> bread,
                 List<Boolean> bound, int bites) { }

    private static final Pattern FORM = Pattern.compile("M[0-9]{2}(E[0-9][1-9][0-3]|C[1-4][0-9][0-3])*", Pattern.DOTALL);

    String text = "";
    List<Envoy> envoys = List.of();
    List<Clause> clauses = List.of();
    State now = new State(0, 0, List.of(), List.of(), List.of(), List.of(), 0);
    final Deque<State> acts = new ArrayDeque<>();
    final List<Sight> sights = new ArrayList<>();
    final State[] kept = new State[2];
    BigInteger theSeed = BigInteger.ZERO;

    // ---- the talk

    int write(int letter) {
        if (letter < 0 || letter > 255) return -2;
        if (text.length() == 48) return -4;
        text += (char) letter;
        return text.length();
    }

    int wipe() {
        int was = text.length();
        text = "";
        return was;
    }

    static boolean isTalk(String s) {
        if (!FORM.matcher(s).matches()) return false;
        int told = 0, said = 0;
        for (int i = 3; i < s.length(); i += 4) {
            if (s.charAt(i) == 'E') {
                told++;
            } else {
                said++;
                if (s.charAt(i + 3) - '0' >= told) return false;
            }
        }
        return told <= 4 && said <= 5;
    }

    /** Whether something of up to four bytes more makes it a talk. */
    static boolean canBecomeTalk(String s, int more) {
        if (isTalk(s)) return true;
        if (more == 0) return false;
        for (char c : "M01".toCharArray()) {
            if (canBecomeTalk(s + c, more - 1)) return true;
        }
        return false;
    }

    int fault() {
        for (int i = 0; i < text.length(); i++) {
            if (!canBecomeTalk(text.substring(0, i + 1), 4)) return i;
        }
        return isTalk(text) ? -9 : text.length();
    }

    int talk() {
        if (!isTalk(text)) return -3;
        List<Envoy> es = new ArrayList<>();
        List<Clause> cs = new ArrayList<>();
        for (int i = 3; i < text.length(); i += 4) {
            int a = text.charAt(i + 1) - '0', b = text.charAt(i + 2) - '0', c = text.charAt(i + 3) - '0';
            if (text.charAt(i) == 'E') es.add(new Envoy(a, b, c));
            else cs.add(new Clause(a, b, c));
        }
        envoys = es;
        clauses = cs;
        now = new State(text.charAt(1) - '0', text.charAt(2) - '0', all(0, es.size()), all(true, es.size()),
            all(false, es.size()), all(false, cs.size()), 0);
        acts.clear();
        kept[0] = kept[1] = null;
        return es.size() * 10 + cs.size();
    }

    static <T> List<T> all(T value, int n) {
        return new ArrayList<>(java.util.Collections.nCopies(n, value));
    }

    static <T> List<T> with(List<T> list, int i, T value) {
        List<T> copy = new ArrayList<>(list);
        copy.set(i, value);
        return copy;
    }

    static int bits(List<Boolean> list) {
        int b = 0;
        for (int i = 0; i < list.size(); i++) if (list.get(i)) b += 1 << i;
        return b;
    }

    int about(int what) {
        return switch (what) {
            case 0 -> envoys.size();
            case 1 -> clauses.size();
            case 2 -> now.heat;
            case 3 -> now.store;
            case 4 -> bits(now.eats);
            case 5 -> bits(now.bound);
            case 6 -> now.bites;
            case 7 -> {
                int b = 0;
                for (int c = 0; c < clauses.size(); c++) if (said(now, c) != null) b += 1 << c;
                yield b;
            }
            case 8 -> acts.size();
            case 9 -> sights.size();
            case 10 -> text.length();
            default -> -2;
        };
    }

    boolean noEnvoy(int e) {
        return e < 0 || e >= envoys.size();
    }

    boolean noClause(int c) {
        return c < 0 || c >= clauses.size();
    }

    int envoy(int e, int what) {
        if (noEnvoy(e)) return -1;
        Envoy it = envoys.get(e);
        return switch (what) {
            case 0 -> it.palate;
            case 1 -> it.wits;
            case 2 -> it.kind;
            case 3 -> now.tears.get(e);
            case 4 -> it.pain(now.heat);
            case 5 -> now.bread.get(e) ? 1 : 0;
            default -> -2;
        };
    }

    int clause(int c, int what) {
        if (noClause(c)) return -1;
        Clause it = clauses.get(c);
        return switch (what) {
            case 0 -> it.words;
            case 1 -> it.heat;
            case 2 -> it.owner;
            case 3 -> it.worth();
            default -> -2;
        };
    }

    // ---- single steps: the state behind them, or null if they can not be

    State bitten(State s) {
        List<Integer> tears = new ArrayList<>(s.tears);
        List<Boolean> eats = new ArrayList<>(s.eats);
        for (int e = 0; e < envoys.size(); e++) {
            if (!s.eats.get(e)) continue;
            tears.set(e, s.tears.get(e) + envoys.get(e).pain(s.heat));
            if (tears.get(e) >= envoys.get(e).wits * 2) eats.set(e, false);
        }
        return new State(s.heat == 0 ? 0 : s.heat - 1, s.store, tears, eats, s.bread, s.bound, s.bites + 1);
    }

    State said(State s, int c) {
        if (noClause(c)) return null;
        Clause it = clauses.get(c);
        boolean can = !s.bound.get(c) && s.eats.get(it.owner) && s.heat >= it.heat && it.words <= 4 - s.heat / 3;
        return can ? new State(s.heat, s.store, s.tears, s.eats, s.bread, with(s.bound, c, true), s.bites) : null;
    }

    State seeded(State s) {
        return s.store == 0 ? null
            : new State(s.heat + 2 > 9 ? 9 : s.heat + 2, s.store - 1, s.tears, s.eats, s.bread, s.bound, s.bites);
    }

    State heated(State s, int heat) {
        return new State(heat, s.store, s.tears, s.eats, s.bread, s.bound, s.bites);
    }

    int worth(State s) {
        int sum = 0;
        for (int c = 0; c < clauses.size(); c++) if (s.bound.get(c)) sum += clauses.get(c).worth();
        return sum;
    }

    // ---- acts

    void act(State then) {
        acts.addLast(now);
        if (acts.size() > 14) acts.removeFirst();
        now = then;
    }

    int bite() {
        if (!now.eats.contains(true)) return -3;
        act(bitten(now));
        return bits(now.eats);
    }

    int say(int c) {
        if (noClause(c)) return -1;
        State then = said(now, c);
        if (then == null) return -3;
        act(then);
        return bits(now.bound);
    }

    int spice() {
        State then = seeded(now);
        if (then == null) return -3;
        act(then);
        return now.heat;
    }

    int bread(int e) {
        if (noEnvoy(e)) return -1;
        if (!now.eats.get(e) || now.bread.get(e)) return -3;
        int left = now.tears.get(e) < 3 ? 0 : now.tears.get(e) - 3;
        act(new State(now.heat, now.store, with(now.tears, e, left), now.eats, with(now.bread, e, true), now.bound,
            now.bites));
        return left;
    }

    int undo() {
        if (acts.isEmpty()) return -3;
        now = acts.removeLast();
        return acts.size();
    }

    // ---- how long, what

    int lasts() {
        State s = now;
        for (int n = 0; n <= 60; n++, s = bitten(s)) if (!s.eats.contains(true)) return n;
        return -9;
    }

    int bears(int e) {
        if (noEnvoy(e)) return -1;
        if (!now.eats.get(e)) return -3;
        State s = now;
        for (int n = 0; n <= 60; n++, s = bitten(s)) if (!s.eats.get(e)) return n;
        return -9;
    }

    int best(int n, boolean row) {
        if (n < 1 || n > 5) return -2;
        int[] found = bestOf(n, List.of(0, 1, 2, 3));
        return row ? found[1] : found[0];
    }

    /** Every number of n figures behind a 1, from the least on. */
    int[] bestOf(int n, List<Integer> come) {
        int most = -1, first = 0, start = (int) Math.pow(10, n);
        for (int number = start; number < 2 * start; number++) {
            String figures = Integer.toString(number).substring(1);
            State s = now;
            int done = 0;
            while (s != null && done < n) {
                int figure = figures.charAt(done) - '0';
                if (figure > clauses.size()) {
                    s = null;
                } else if (figure == 0) {
                    s = bitten(s);
                } else {
                    s = come.contains(clauses.get(figure - 1).owner) ? said(s, figure - 1) : null;
                }
                done++;
            }
            if (s == null) {
                // No other number with the same figures so far can be either.
                int step = (int) Math.pow(10, n - done);
                number = (number / step + 1) * step - 1;
            } else if (worth(s) - worth(now) > most) {
                most = worth(s) - worth(now);
                first = number;
            }
        }
        return new int[] {most, first};
    }

    int hot(int c, int n) {
        if (noClause(c)) return -1;
        if (n < 0 || n > 9) return -2;
        int b = 0;
        for (int heat = 0; heat <= 9; heat++) {
            State s = heated(now, heat);
            for (int i = 0; i < n; i++) s = bitten(s);
            if (said(s, c) != null) b += 1 << heat;
        }
        return b;
    }

    int spiceFor(int c) {
        if (noClause(c)) return -1;
        if (now.bound.get(c)) return -3;
        int seeds = 0;
        for (State s = now; s != null; s = seeded(s), seeds++) if (said(s, c) != null) return seeds;
        return -9;
    }

    int judge(int n, int row) {
        if (n < 1 || n > 6) return -2;
        if (row < 0) return -2;
        String figures = Integer.toString(row);
        while (figures.length() < n) figures = "0" + figures;
        if (figures.length() > n || !figures.matches("[0-7]*")) return -2;
        State s = now;
        for (int i = 0; i < n; i++) {
            int f = figures.charAt(i) - '0';
            s = f == 7 ? s : f == 6 ? seeded(s) : f > 0 ? said(s, f - 1) : s.eats.contains(true) ? bitten(s) : null;
            if (s == null) return i;
        }
        return -9;
    }

    int share(int e, boolean upper) {
        if (noEnvoy(e)) return -1;
        List<List<Integer>> orders = new ArrayList<>();
        order(new ArrayList<>(), orders);
        int sum = 0;
        for (List<Integer> order : orders) {
            int at = order.indexOf(e);
            sum += bestOf(2, order.subList(0, at + 1))[0] - bestOf(2, order.subList(0, at))[0];
        }
        return told(BigInteger.valueOf(sum), BigInteger.valueOf(orders.size()), upper);
    }

    private void order(List<Integer> come, List<List<Integer>> orders) {
        if (come.size() == envoys.size()) orders.add(new ArrayList<>(come));
        for (int e = 0; e < envoys.size(); e++) {
            if (come.contains(e)) continue;
            come.add(e);
            order(come, orders);
            come.remove(come.size() - 1);
        }
    }

    static int told(BigInteger above, BigInteger below, boolean upper) {
        BigInteger g = above.gcd(below);
        return (upper ? above : below).divide(g).intValueExact();
    }

    // ---- palates

    int see(int kind, int h, int t) {
        if (kind < 0 || kind > 3 || h < 0 || h > 9 || t < 0 || t > 10) return -2;
        if (sights.size() == 6) return -4;
        sights.add(new Sight(kind, h, t));
        return sights.size();
    }

    int unsee() {
        int was = sights.size();
        sights.clear();
        return was;
    }

    int palates(int kind) {
        if (kind < 0 || kind > 3) return -2;
        int b = 0;
        for (int p = 0; p <= 9; p++) {
            Envoy it = new Envoy(p, 1, kind);
            if (sights.stream().filter(s -> s.kind == kind).allMatch(s -> it.pain(s.heat) == s.tears)) b += 1 << p;
        }
        return b;
    }

    // ---- rests, chances

    int rests(int e, int other, int what) {
        if (noEnvoy(e) || noEnvoy(other)) return -1;
        if (e == other || what < 0 || what > 1) return -2;
        int[][][] loss = new int[5][5][2];
        for (int a = 0; a < 5; a++) {
            for (int b = 0; b < 5; b++) {
                loss[a][b][0] = a == b ? 2 : a < b ? 4 : 0;
                loss[a][b][1] = a == b ? 2 : b < a ? 4 : 0;
                int heat = now.heat;
                for (int i = 0; i < a && i < b; i++) {
                    loss[a][b][0] += envoys.get(e).pain(heat);
                    loss[a][b][1] += envoys.get(other).pain(heat);
                    heat = heat == 0 ? 0 : heat - 1;
                }
            }
        }
        List<Integer> pairs = new ArrayList<>();
        for (int a = 0; a < 5; a++) {
            for (int b = 0; b < 5; b++) {
                boolean rest = true;
                for (int c = 0; c < 5; c++) {
                    rest &= loss[c][b][0] >= loss[a][b][0] && loss[a][c][1] >= loss[a][b][1];
                }
                if (rest) pairs.add(10 * a + b);
            }
        }
        return what == 0 ? pairs.size() : pairs.isEmpty() ? -9 : pairs.get(0);
    }

    int chance(int e, int n, int x, boolean upper) {
        if (noEnvoy(e)) return -1;
        if (n < 1 || n > 6 || x < 0 || x > 10) return -2;
        BigInteger ways = now.eats.get(e) ? ways(envoys.get(e), now.heat, now.tears.get(e), n, x) : BigInteger.ZERO;
        return told(ways, BigInteger.TEN.pow(n), upper);
    }

    /** Out of 10 to the n. */
    private static BigInteger ways(Envoy it, int heat, int tears, int n, int x) {
        if (tears >= it.wits * 2) return BigInteger.ZERO;
        if (n == 0) return BigInteger.ONE;
        int cooler = heat == 0 ? 0 : heat - 1;
        return ways(it, cooler, tears, n - 1, x).multiply(BigInteger.valueOf(x))
            .add(ways(it, cooler, tears + it.pain(heat), n - 1, x).multiply(BigInteger.valueOf(10 - x)));
    }

    long seed(long v) {
        long was = theSeed.longValue();
        theSeed = BigInteger.valueOf(v).mod(BigInteger.TWO.pow(64));
        return was;
    }

    int talks(int m) {
        if (m < 1 || m > 30) return -2;
        State s = now;
        for (int i = 0; i < m; i++) {
            theSeed = theSeed.multiply(new BigInteger("6364136223846793005"))
                .add(new BigInteger("1442695040888963407")).mod(BigInteger.TWO.pow(64));
            int drawn = theSeed.divide(BigInteger.TWO.pow(33)).mod(BigInteger.valueOf(12)).intValue();
            State then = drawn < 5 ? said(s, drawn) : drawn == 5 ? seeded(s) : bitten(s);
            s = then == null ? s : then;
        }
        return worth(s) - worth(now);
    }

    // ---- slots

    int keep(int slot) {
        if (slot < 0 || slot > 1) return -1;
        kept[slot] = now;
        return now.bites;
    }

    int again(int slot) {
        if (slot < 0 || slot > 1) return -1;
        if (kept[slot] == null) return -3;
        now = kept[slot];
        acts.clear();
        return now.bites;
    }
}

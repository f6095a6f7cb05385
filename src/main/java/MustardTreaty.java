/**
 * Mustard treaties: envoys eat of one hot dish, and whatever can be said while it lasts is binding.
 * All rows are made with the object and used again, so that no call makes anything new.
 */
public final class MustardTreaty {
    public static final int UNKNOWN = -1, BAD = -2, LATE = -3, FULL = -4, NONE = -9;

    private static final int MOST_BYTES = 48;
    private static final int MOST_ENVOYS = 4;
    private static final int MOST_CLAUSES = 5;
    private static final int MOST_ACTS = 14;
    private static final int MOST_SEEN = 6;
    private static final int MOST_SLOTS = 2;
    private static final int MOST_BITES = 60;
    private static final int HOTTEST = 9;
    private static final int PLAIN = 0, NUMB = 1, WEEPER = 2, BEER = 3;

    private final Script script;
    private final Rules rules;
    private final Table table;
    private final Table trial;
    private final Acts acts;
    private final Slots slots;
    private final Sights sights;
    private final Search search;
    private final Stops stops;
    private long chanceSeed;

    public MustardTreaty() {
        script = new Script();
        rules = new Rules();
        table = new Table(rules);
        trial = new Table(rules);
        acts = new Acts(rules);
        slots = new Slots(rules);
        sights = new Sights();
        search = new Search(rules);
        stops = new Stops(rules);
    }

    // ---- the talk

    public int write(int letter) {
        if (letter < 0 || letter > 255) {
            return BAD;
        }
        if (script.length >= MOST_BYTES) {
            return FULL;
        }
        script.append(letter);
        return script.length;
    }

    public int wipe() {
        int was = script.length;
        script.length = 0;
        return was;
    }

    public int fault() {
        return script.firstFault();
    }

    public int talk() {
        if (script.firstFault() != NONE) {
            return LATE;
        }
        script.tellInto(rules);
        table.layAnew();
        acts.forgetAll();
        slots.forgetAll();
        return 10 * rules.envoys + rules.clauses;
    }

    public int about(int what) {
        switch (what) {
            case 0: return rules.envoys;
            case 1: return rules.clauses;
            case 2: return table.heat;
            case 3: return table.store;
            case 4: return table.eating;
            case 5: return table.bound;
            case 6: return table.bites;
            case 7: return table.sayable();
            case 8: return acts.count;
            case 9: return sights.count;
            case 10: return script.length;
            default: return BAD;
        }
    }

    public int envoy(int envoy, int what) {
        if (!rules.hasEnvoy(envoy)) {
            return UNKNOWN;
        }
        switch (what) {
            case 0: return rules.palate[envoy];
            case 1: return rules.wits[envoy];
            case 2: return rules.kind[envoy];
            case 3: return table.tears[envoy];
            case 4: return rules.pain(envoy, table.heat);
            case 5: return table.hadBread(envoy) ? 1 : 0;
            default: return BAD;
        }
    }

    public int clause(int clause, int what) {
        if (!rules.hasClause(clause)) {
            return UNKNOWN;
        }
        switch (what) {
            case 0: return rules.words[clause];
            case 1: return rules.heatNeeded[clause];
            case 2: return rules.owner[clause];
            case 3: return rules.worth(clause);
            default: return BAD;
        }
    }

    // ---- acts

    public int bite() {
        if (table.eating == 0) {
            return LATE;
        }
        acts.remember(table);
        table.takeBite();
        return table.eating;
    }

    public int say(int clause) {
        if (!rules.hasClause(clause)) {
            return UNKNOWN;
        }
        if (!table.canBeSaid(clause)) {
            return LATE;
        }
        acts.remember(table);
        table.bind(clause);
        return table.bound;
    }

    public int spice() {
        if (table.store <= 0) {
            return LATE;
        }
        acts.remember(table);
        table.putSeed();
        return table.heat;
    }

    public int bread(int envoy) {
        if (!rules.hasEnvoy(envoy)) {
            return UNKNOWN;
        }
        if (!table.eats(envoy) || table.hadBread(envoy)) {
            return LATE;
        }
        acts.remember(table);
        table.takeBread(envoy);
        return table.tears[envoy];
    }

    public int undo() {
        if (acts.count <= 0) {
            return LATE;
        }
        acts.takeBack(table);
        return acts.count;
    }

    // ---- how long, what

    public int lasts() {
        int all = (1 << MOST_ENVOYS) - 1;
        return bitesTillNoneOf(all);
    }

    public int bears(int envoy) {
        if (!rules.hasEnvoy(envoy)) {
            return UNKNOWN;
        }
        if (!table.eats(envoy)) {
            return LATE;
        }
        return bitesTillNoneOf(1 << envoy);
    }

    private int bitesTillNoneOf(int envoyBits) {
        trial.copyFrom(table);
        for (int taken = 0; taken <= MOST_BITES; taken++) {
            if ((trial.eating & envoyBits) == 0) {
                return taken;
            }
            trial.takeBite();
        }
        return NONE;
    }

    public int best(int n, boolean row) {
        if (n < 1 || n > Search.MOST_TURNS) {
            return BAD;
        }
        int most = search.mostBy(table, n, Search.ALL_CLAUSES);
        return row ? search.bestRow : most;
    }

    public int hot(int clause, int n) {
        if (!rules.hasClause(clause)) {
            return UNKNOWN;
        }
        if (n < 0 || n > 9) {
            return BAD;
        }
        int heats = 0;
        for (int heat = 0; heat <= HOTTEST; heat++) {
            if (canBeSaidFrom(heat, clause, n)) {
                heats |= 1 << heat;
            }
        }
        return heats;
    }

    private boolean canBeSaidFrom(int heat, int clause, int bites) {
        trial.copyFrom(table);
        trial.heat = heat;
        for (int taken = 0; taken < bites; taken++) {
            trial.takeBite();
        }
        return trial.canBeSaid(clause);
    }

    public int spiceFor(int clause) {
        if (!rules.hasClause(clause)) {
            return UNKNOWN;
        }
        if (table.isBound(clause)) {
            return LATE;
        }
        trial.copyFrom(table);
        for (int seeds = 0; seeds <= table.store; seeds++) {
            if (trial.canBeSaid(clause)) {
                return seeds;
            }
            trial.putSeed();
        }
        return NONE;
    }

    public int judge(int n, int row) {
        if (n < 1 || n > 6 || !isRowOfFigures(n, row)) {
            return BAD;
        }
        trial.copyFrom(table);
        int unit = powerOfTen(n - 1);
        for (int place = 0; place < n && unit > 0; place++) {
            if (!trial.takeTurn(row / unit % 10)) {
                return place;
            }
            unit /= 10;
        }
        return NONE;
    }

    private static boolean isRowOfFigures(int n, int row) {
        if (row < 0 || row >= powerOfTen(n)) {
            return false;
        }
        int rest = row;
        for (int place = 0; place < n; place++) {
            if (rest % 10 > Table.NOTHING) {
                return false;
            }
            rest /= 10;
        }
        return true;
    }

    private static int powerOfTen(int n) {
        int power = 1;
        for (int i = 0; i < n; i++) {
            power *= 10;
        }
        return power;
    }

    public int share(int envoy, boolean upper) {
        if (!rules.hasEnvoy(envoy)) {
            return UNKNOWN;
        }
        int itself = 1 << envoy;
        int gains = 0;
        for (int there = 0; there < 1 << rules.envoys; there++) {
            if ((there & itself) == 0) {
                int without = search.mostBy(table, 2, rules.clausesOf(there));
                int with = search.mostBy(table, 2, rules.clausesOf(there | itself));
                gains += ordersWith(there) * (with - without);
            }
        }
        return fraction(gains, factorial(rules.envoys), upper);
    }

    /** In how many orders just these have come when one more comes. */
    private int ordersWith(int there) {
        int ahead = Integer.bitCount(there);
        return factorial(ahead) * factorial(rules.envoys - ahead - 1);
    }

    private static int factorial(int n) {
        int product = 1;
        for (int i = 2; i <= n; i++) {
            product *= i;
        }
        return product;
    }

    private static int fraction(int above, int below, boolean upper) {
        int divisor = commonDivisor(above, below);
        return upper ? above / divisor : below / divisor;
    }

    /** 1 at least, so that it can always divide. */
    private static int commonDivisor(int a, int b) {
        int left = a;
        int right = b;
        // Euclid's steps for two ints are fewer than 64.
        for (int step = 0; step < 64 && right != 0; step++) {
            int rest = left % right;
            left = right;
            right = rest;
        }
        return Math.max(1, left);
    }

    // ---- palates

    public int see(int kind, int h, int t) {
        if (!isKind(kind) || h < 0 || h > HOTTEST || t < 0 || t > 10) {
            return BAD;
        }
        if (sights.count >= MOST_SEEN) {
            return FULL;
        }
        sights.add(kind, h, t);
        return sights.count;
    }

    public int unsee() {
        int was = sights.count;
        sights.count = 0;
        return was;
    }

    public int palates(int kind) {
        if (!isKind(kind)) {
            return BAD;
        }
        return sights.palatesThatFit(kind);
    }

    private static boolean isKind(int kind) {
        return kind >= PLAIN && kind <= BEER;
    }

    // ---- rests, chances

    public int rests(int envoy, int other, int what) {
        if (!rules.hasEnvoy(envoy) || !rules.hasEnvoy(other)) {
            return UNKNOWN;
        }
        if (envoy == other || what < 0 || what > 1) {
            return BAD;
        }
        stops.find(envoy, other, table.heat);
        return what == 0 ? stops.count : stops.first;
    }

    public int chance(int envoy, int n, int x, boolean upper) {
        if (!rules.hasEnvoy(envoy)) {
            return UNKNOWN;
        }
        if (n < 1 || n > 6 || x < 0 || x > 10) {
            return BAD;
        }
        int ways = 0;
        for (int sneezes = 0; sneezes < 1 << n; sneezes++) {
            if (table.eats(envoy) && stillEats(envoy, n, sneezes)) {
                ways += weight(n, sneezes, x);
            }
        }
        return fraction(ways, powerOfTen(n), upper);
    }

    private boolean stillEats(int envoy, int bites, int sneezes) {
        int tears = table.tears[envoy];
        for (int taken = 0; taken < bites; taken++) {
            if ((sneezes >> taken & 1) == 0) {
                tears += rules.pain(envoy, Math.max(0, table.heat - taken));
            }
        }
        // Tears never grow less by bites, so the last count tells of all before it.
        return tears < rules.tearsToStop(envoy);
    }

    private static int weight(int bites, int sneezes, int tenths) {
        int product = 1;
        for (int taken = 0; taken < bites; taken++) {
            product *= (sneezes >> taken & 1) == 0 ? 10 - tenths : tenths;
        }
        return product;
    }

    public long seed(long v) {
        long was = chanceSeed;
        chanceSeed = v;
        return was;
    }

    public int talks(int m) {
        if (m < 1 || m > 30) {
            return BAD;
        }
        trial.copyFrom(table);
        for (int turn = 0; turn < m; turn++) {
            chanceSeed = chanceSeed * 6364136223846793005L + 1442695040888963407L;
            takeDrawnTurn((int) ((chanceSeed >>> 33) % 12));
        }
        return rules.worthOf(trial.bound & ~table.bound);
    }

    private void takeDrawnTurn(int drawn) {
        if (drawn > MOST_CLAUSES) {
            trial.takeBite();
        } else if (drawn == MOST_CLAUSES) {
            trial.takeTurn(Table.SEEDING);
        } else {
            trial.takeTurn(drawn + 1);
        }
    }

    // ---- slots

    public int keep(int slot) {
        if (slot < 0 || slot >= MOST_SLOTS) {
            return UNKNOWN;
        }
        slots.put(slot, table);
        return table.bites;
    }

    public int again(int slot) {
        if (slot < 0 || slot >= MOST_SLOTS) {
            return UNKNOWN;
        }
        if (!slots.used[slot]) {
            return LATE;
        }
        table.copyFrom(slots.tables[slot]);
        acts.forgetAll();
        return table.bites;
    }

    /** THE TEXT, byte by byte: three at the head, then parts of four. */
    private static final class Script {
        static final int HEAD = 3;
        static final int PART = 4;

        final int[] bytes = new int[MOST_BYTES];
        int length;

        void append(int letter) {
            if (length < MOST_BYTES) {
                bytes[length] = letter;
                length++;
            }
        }

        int firstFault() {
            int envoys = 0;
            int clauses = 0;
            for (int place = 0; place < length; place++) {
                if (!fits(place, envoys, clauses)) {
                    return place;
                }
                if (isAtEndOfPart(place)) {
                    if (bytes[place - PART + 1] == 'E') {
                        envoys++;
                    } else {
                        clauses++;
                    }
                }
            }
            return length >= HEAD && (length - HEAD) % PART == 0 ? NONE : length;
        }

        private static boolean isAtEndOfPart(int place) {
            return place >= HEAD && (place - HEAD) % PART == PART - 1;
        }

        private boolean fits(int place, int envoys, int clauses) {
            int letter = bytes[place];
            if (place == 0) {
                return letter == 'M';
            }
            if (place < HEAD) {
                return isFigure(letter, 0, 9);
            }
            int inPart = (place - HEAD) % PART;
            if (inPart == 0) {
                return letter == 'E' && envoys < MOST_ENVOYS
                    || letter == 'C' && clauses < MOST_CLAUSES && envoys > 0;
            }
            return bytes[place - inPart] == 'E'
                ? fitsEnvoy(inPart, letter)
                : fitsClause(inPart, letter, envoys);
        }

        private static boolean fitsEnvoy(int inPart, int letter) {
            switch (inPart) {
                case 1: return isFigure(letter, 0, 9);
                case 2: return isFigure(letter, 1, 9);
                default: return isFigure(letter, PLAIN, BEER);
            }
        }

        private static boolean fitsClause(int inPart, int letter, int envoys) {
            switch (inPart) {
                case 1: return isFigure(letter, 1, 4);
                case 2: return isFigure(letter, 0, 9);
                default: return isFigure(letter, 0, envoys - 1);
            }
        }

        private static boolean isFigure(int letter, int least, int most) {
            return letter >= '0' + least && letter <= '0' + most;
        }

        /** Only for a text without a fault. */
        void tellInto(Rules rules) {
            rules.begin(figure(1), figure(2));
            for (int part = HEAD; part + PART <= length; part += PART) {
                if (bytes[part] == 'E') {
                    rules.addEnvoy(figure(part + 1), figure(part + 2), figure(part + 3));
                } else {
                    rules.addClause(figure(part + 1), figure(part + 2), figure(part + 3));
                }
            }
        }

        private int figure(int place) {
            return bytes[place] - '0';
        }
    }

    /** What THE TALK tells and no act changes. */
    private static final class Rules {
        int heatAtFirst;
        int storeAtFirst;
        int envoys;
        int clauses;
        final int[] palate = new int[MOST_ENVOYS];
        final int[] wits = new int[MOST_ENVOYS];
        final int[] kind = new int[MOST_ENVOYS];
        final int[] words = new int[MOST_CLAUSES];
        final int[] heatNeeded = new int[MOST_CLAUSES];
        final int[] owner = new int[MOST_CLAUSES];

        void begin(int heat, int store) {
            heatAtFirst = heat;
            storeAtFirst = store;
            envoys = 0;
            clauses = 0;
        }

        void addEnvoy(int itsPalate, int itsWits, int itsKind) {
            if (envoys < MOST_ENVOYS) {
                palate[envoys] = itsPalate;
                wits[envoys] = itsWits;
                kind[envoys] = itsKind;
                envoys++;
            }
        }

        void addClause(int itsWords, int itsHeat, int itsOwner) {
            if (clauses < MOST_CLAUSES) {
                words[clauses] = itsWords;
                heatNeeded[clauses] = itsHeat;
                owner[clauses] = itsOwner;
                clauses++;
            }
        }

        boolean hasEnvoy(int envoy) {
            return envoy >= 0 && envoy < envoys;
        }

        boolean hasClause(int clause) {
            return clause >= 0 && clause < clauses;
        }

        int worth(int clause) {
            return words[clause] + heatNeeded[clause];
        }

        int worthOf(int clauseBits) {
            int sum = 0;
            for (int clause = 0; clause < clauses; clause++) {
                if ((clauseBits >> clause & 1) != 0) {
                    sum += worth(clause);
                }
            }
            return sum;
        }

        int clausesOf(int envoyBits) {
            int bits = 0;
            for (int clause = 0; clause < clauses; clause++) {
                if ((envoyBits >> owner[clause] & 1) != 0) {
                    bits |= 1 << clause;
                }
            }
            return bits;
        }

        int tearsToStop(int envoy) {
            return 2 * wits[envoy];
        }

        int pain(int envoy, int heat) {
            return painFor(kind[envoy], palate[envoy], heat);
        }

        static int painFor(int kind, int palate, int heat) {
            int over = Math.max(0, heat - palate);
            switch (kind) {
                case NUMB: return 0;
                case WEEPER: return over > 0 ? over + 1 : 0;
                case BEER: return Math.max(0, over - 1);
                default: return over;
            }
        }

        static int wordsAt(int heat) {
            return 4 - heat / 3;
        }
    }

    /** What acts change: the pot, the store, who eats, what is bound. */
    private static final class Table {
        static final int BITING = 0, SEEDING = 6, NOTHING = 7;

        private final Rules rules;
        int heat;
        int store;
        int eating;
        int fed;
        int bound;
        int bites;
        final int[] tears = new int[MOST_ENVOYS];

        Table(Rules rules) {
            this.rules = rules;
        }

        void layAnew() {
            heat = rules.heatAtFirst;
            store = rules.storeAtFirst;
            eating = (1 << rules.envoys) - 1;
            fed = 0;
            bound = 0;
            bites = 0;
            for (int envoy = 0; envoy < MOST_ENVOYS; envoy++) {
                tears[envoy] = 0;
            }
        }

        void copyFrom(Table other) {
            heat = other.heat;
            store = other.store;
            eating = other.eating;
            fed = other.fed;
            bound = other.bound;
            bites = other.bites;
            for (int envoy = 0; envoy < MOST_ENVOYS; envoy++) {
                tears[envoy] = other.tears[envoy];
            }
        }

        boolean eats(int envoy) {
            return (eating >> envoy & 1) != 0;
        }

        boolean hadBread(int envoy) {
            return (fed >> envoy & 1) != 0;
        }

        boolean isBound(int clause) {
            return (bound >> clause & 1) != 0;
        }

        boolean canBeSaid(int clause) {
            return rules.hasClause(clause)
                && !isBound(clause)
                && eats(rules.owner[clause])
                && heat >= rules.heatNeeded[clause]
                && rules.words[clause] <= Rules.wordsAt(heat);
        }

        int sayable() {
            int bits = 0;
            for (int clause = 0; clause < rules.clauses; clause++) {
                if (canBeSaid(clause)) {
                    bits |= 1 << clause;
                }
            }
            return bits;
        }

        void takeBite() {
            for (int envoy = 0; envoy < rules.envoys; envoy++) {
                if (eats(envoy)) {
                    tears[envoy] += rules.pain(envoy, heat);
                    if (tears[envoy] >= rules.tearsToStop(envoy)) {
                        eating &= ~(1 << envoy);
                    }
                }
            }
            heat = Math.max(0, heat - 1);
            bites++;
        }

        void bind(int clause) {
            bound |= 1 << clause;
        }

        void putSeed() {
            store--;
            heat = Math.min(HOTTEST, heat + 2);
        }

        void takeBread(int envoy) {
            tears[envoy] = Math.max(0, tears[envoy] - 3);
            fed |= 1 << envoy;
        }

        /** Takes a turn told as a figure, and says whether it could be taken. */
        boolean takeTurn(int figure) {
            boolean can;
            switch (figure) {
                case BITING:
                    can = eating != 0;
                    break;
                case SEEDING:
                    can = store > 0;
                    break;
                case NOTHING:
                    can = true;
                    break;
                default:
                    can = canBeSaid(figure - 1);
            }
            if (can) {
                changeBy(figure);
            }
            return can;
        }

        private void changeBy(int figure) {
            switch (figure) {
                case BITING:
                    takeBite();
                    break;
                case SEEDING:
                    putSeed();
                    break;
                case NOTHING:
                    break;
                default:
                    bind(figure - 1);
            }
        }
    }

    /** How the table stood ahead of each of the last acts, in a ring. */
    private static final class Acts {
        private final Table[] before = new Table[MOST_ACTS];
        private int oldest;
        int count;

        Acts(Rules rules) {
            for (int i = 0; i < MOST_ACTS; i++) {
                before[i] = new Table(rules);
            }
        }

        void forgetAll() {
            oldest = 0;
            count = 0;
        }

        void remember(Table table) {
            if (count >= MOST_ACTS) {
                oldest = (oldest + 1) % MOST_ACTS;
                count--;
            }
            before[(oldest + count) % MOST_ACTS].copyFrom(table);
            count++;
        }

        void takeBack(Table table) {
            if (count > 0) {
                count--;
                table.copyFrom(before[(oldest + count) % MOST_ACTS]);
            }
        }
    }

    private static final class Slots {
        final Table[] tables = new Table[MOST_SLOTS];
        final boolean[] used = new boolean[MOST_SLOTS];

        Slots(Rules rules) {
            for (int slot = 0; slot < MOST_SLOTS; slot++) {
                tables[slot] = new Table(rules);
            }
        }

        void put(int slot, Table table) {
            tables[slot].copyFrom(table);
            used[slot] = true;
        }

        void forgetAll() {
            for (int slot = 0; slot < MOST_SLOTS; slot++) {
                used[slot] = false;
            }
        }
    }

    /** What was SEEN. */
    private static final class Sights {
        private final int[] kinds = new int[MOST_SEEN];
        private final int[] heats = new int[MOST_SEEN];
        private final int[] tears = new int[MOST_SEEN];
        int count;

        void add(int kind, int heat, int more) {
            if (count < MOST_SEEN) {
                kinds[count] = kind;
                heats[count] = heat;
                tears[count] = more;
                count++;
            }
        }

        int palatesThatFit(int kind) {
            int bits = 0;
            for (int palate = 0; palate <= 9; palate++) {
                if (fitsAll(kind, palate)) {
                    bits |= 1 << palate;
                }
            }
            return bits;
        }

        private boolean fitsAll(int kind, int palate) {
            for (int i = 0; i < count; i++) {
                if (kinds[i] == kind && Rules.painFor(kind, palate, heats[i]) != tears[i]) {
                    return false;
                }
            }
            return true;
        }
    }

    /** Goes through all rows of turns, the least first, so that of like ones the first is kept. */
    private static final class Search {
        static final int MOST_TURNS = 5;
        static final int ALL_CLAUSES = (1 << MOST_CLAUSES) - 1;

        private final Rules rules;
        /** The table behind so many turns. */
        private final Table[] behind = new Table[MOST_TURNS + 1];
        private int turns;
        private int allowed;
        private int bestWorth;
        int bestRow;

        Search(Rules rules) {
            this.rules = rules;
            for (int i = 0; i <= MOST_TURNS; i++) {
                behind[i] = new Table(rules);
            }
        }

        int mostBy(Table table, int n, int clauseBits) {
            turns = Math.min(n, MOST_TURNS);
            allowed = clauseBits;
            bestWorth = -1;
            bestRow = 1;
            behind[0].copyFrom(table);
            goOn(0, 1, 0);
            return bestWorth;
        }

        private void goOn(int taken, int row, int worth) {
            if (taken >= turns || taken >= MOST_TURNS) {
                if (worth > bestWorth) {
                    bestWorth = worth;
                    bestRow = row;
                }
                return;
            }
            Table here = behind[taken];
            Table next = behind[taken + 1];
            next.copyFrom(here);
            next.takeBite();
            goOn(taken + 1, 10 * row, worth);
            for (int clause = 0; clause < rules.clauses; clause++) {
                if ((allowed >> clause & 1) != 0 && here.canBeSaid(clause)) {
                    next.copyFrom(here);
                    next.bind(clause);
                    goOn(taken + 1, 10 * row + clause + 1, worth + rules.worth(clause));
                }
            }
        }
    }

    /** Two who would each stop behind so many bites: where neither would rather do otherwise. */
    private static final class Stops {
        static final int LATEST = 4;

        private final Rules rules;
        int count;
        int first;

        Stops(Rules rules) {
            this.rules = rules;
        }

        void find(int envoy, int other, int heat) {
            count = 0;
            first = NONE;
            for (int own = 0; own <= LATEST; own++) {
                for (int others = 0; others <= LATEST; others++) {
                    if (isLeast(envoy, own, others, heat) && isLeast(other, others, own, heat)) {
                        if (count == 0) {
                            first = 10 * own + others;
                        }
                        count++;
                    }
                }
            }
        }

        private boolean isLeast(int envoy, int own, int others, int heat) {
            int loss = loss(envoy, own, others, heat);
            for (int choice = 0; choice <= LATEST; choice++) {
                if (loss(envoy, choice, others, heat) < loss) {
                    return false;
                }
            }
            return true;
        }

        private int loss(int envoy, int own, int others, int heat) {
            int sum = 0;
            if (own < others) {
                sum = 4;
            } else if (own == others) {
                sum = 2;
            }
            int bites = Math.min(own, others);
            for (int taken = 0; taken < bites; taken++) {
                sum += rules.pain(envoy, Math.max(0, heat - taken));
            }
            return sum;
        }
    }
}

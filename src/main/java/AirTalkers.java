/**
 * Stations that talk on one air: who talks alone in a slot is heard, who clash wait for a while.
 * The promises are told in shared/DOC.md; every call answers a number, none throws.
 */
public final class AirTalkers {
    public static final int BAD = -1, FULL = -2, FINDING = -3, STATE = -4, SPENT = -6, NONE = -9;

    private static final int NOTHING = 1, BEYOND = 2, UNLIKE = 3, NOUGHT = 4, SIZE = 5;
    private static final int ROWS = 6, ROW_SIZE = 40, TEXTS = 4, TEXT_SIZE = 60, KEPT = 3;
    private static final int MISSING = -1, BLANK = 32, FIGURE_0 = 48, ITEM_SIZE = 4;

    private static final int PLAIN = 0, DOUBLE = 1, POLITE = 2, STUBBORN = 3, LOTTERY = 4, SHY = 5, KINDS = 6;
    private static final int[] KIND_LETTERS = {112, 100, 111, 115, 108, 121};
    private static final int[] KIND_ABOVE = {MISSING, PLAIN, PLAIN, PLAIN, DOUBLE, POLITE};

    private static final int FEWEST_STATIONS = 2, MOST_STATIONS = 7, MOST_LETTERS = 30;
    private static final int FIRSTS = 10, LONGEST_WAIT = 64, LAST_CLASH_OF_SHY = 4;
    private static final int LAST_SLOT = 199, FARTHEST = 200;

    private static final int MOST_DEEDS = 40;
    private static final int DEED_NONE = 0, DEED_SLOT = 1, DEED_GIVE = 2, DEED_DROP = 3, DEED_FIRST = 4;

    private static final int MOST_WATCHED = 20, MOST_AHEAD = 100, MOST_SHORT = 40, MOST_TURNS = 3;
    private static final int TWELVE = 12, MOST_LOTS = 20, COUNTS = 12, TOLD_OF_STATION = 7;
    private static final long LOT_FACTOR = 48271, LOT_MODULUS = 2147483647;

    private final int[][] rows = new int[ROWS][ROW_SIZE];
    private final int[] rowSizes = new int[ROWS];
    private final byte[][] texts = new byte[TEXTS][TEXT_SIZE];
    private final int[] textSizes = new int[TEXTS];

    /** The air as its text told it: deeds are undone by going on from here once more. */
    private final Air start = new Air();
    private final Air now = new Air();
    private final Deeds deeds = new Deeds();
    private final Deeds[] keptDeeds = new Deeds[KEPT];

    /** Airs to try things on, made once so that no call makes any. */
    private final Air aside = new Air();
    private final Air trial = new Air();
    private final int[] heardOf = new int[MOST_STATIONS];
    private final int[][] watched = new int[KINDS][MOST_WATCHED];

    private int toldAsked = 0;
    private long toldUpper = 0;
    private long toldLower = 1;
    private int latestFinding = 0;
    private final int[] findingCounts = new int[SIZE + 1];

    public AirTalkers() {
        for (int r = 0; r < ROWS; r++) {
            rowSizes[r] = MISSING;
        }
        for (int t = 0; t < TEXTS; t++) {
            textSizes[t] = MISSING;
        }
        for (int k = 0; k < KEPT; k++) {
            keptDeeds[k] = new Deeds();
            keptDeeds[k].size = MISSING;
        }
    }

    // ---- 1 rows, texts, airs

    public int row(int r, int n) {
        if (!isRow(r) || n > ROW_SIZE) {
            return BAD;
        }
        if (n < 0) {
            return found(SIZE);
        }
        for (int i = 0; i < n; i++) {
            rows[r][i] = 0;
        }
        rowSizes[r] = n;
        return n;
    }

    public int lay(int r, int i, int v) {
        int refused = refusedPlace(r, i);
        if (refused != 0) {
            return refused;
        }
        toldAsked = rows[r][i];
        rows[r][i] = v;
        return 1;
    }

    public int at(int r, int i) {
        int refused = refusedPlace(r, i);
        if (refused != 0) {
            return refused;
        }
        toldAsked = rows[r][i];
        return 1;
    }

    public int tear(int r) {
        if (!isRow(r)) {
            return BAD;
        }
        if (rowSizes[r] == MISSING) {
            return found(NOTHING);
        }
        rowSizes[r] = MISSING;
        return 1;
    }

    public int copy(int r, int i, int to, int j, int n) {
        if (!isRow(r) || !isRow(to)) {
            return BAD;
        }
        if (n < 0) {
            return found(SIZE);
        }
        if (rowSizes[r] == MISSING || rowSizes[to] == MISSING) {
            return found(NOTHING);
        }
        if (!holds(rowSizes[r], i, n) || !holds(rowSizes[to], j, n)) {
            return found(BEYOND);
        }
        System.arraycopy(rows[r], i, rows[to], j, n);
        return 1;
    }

    public int mean(int r) {
        if (!isRow(r)) {
            return BAD;
        }
        int size = rowSizes[r];
        if (size == MISSING) {
            return found(NOTHING);
        }
        if (size < 1) {
            return found(NOUGHT);
        }
        long sum = 0;
        for (int i = 0; i < size; i++) {
            sum += rows[r][i];
        }
        toldAsked = (int) (sum / size);
        return 1;
    }

    public int text(int t, int n) {
        if (!isText(t) || n > TEXT_SIZE) {
            return BAD;
        }
        if (n < 0) {
            return found(SIZE);
        }
        for (int i = 0; i < n; i++) {
            texts[t][i] = BLANK;
        }
        textSizes[t] = n;
        return n;
    }

    public int put(int t, int i, int v) {
        if (!isText(t)) {
            return BAD;
        }
        if (textSizes[t] == MISSING) {
            return found(NOTHING);
        }
        if (i < 0 || i >= textSizes[t]) {
            return found(BEYOND);
        }
        int was = texts[t][i];
        texts[t][i] = (byte) v;
        return was + 1000;
    }

    public int fault(int t) {
        if (!isText(t)) {
            return BAD;
        }
        if (textSizes[t] == MISSING) {
            return found(NOTHING);
        }
        return aside.read(texts[t], textSizes[t]);
    }

    public int air(int t) {
        if (!isText(t)) {
            return BAD;
        }
        if (textSizes[t] == MISSING) {
            return found(NOTHING);
        }
        if (aside.read(texts[t], textSizes[t]) != NONE) {
            return STATE;
        }
        start.become(aside);
        now.become(aside);
        deeds.size = 0;
        for (int k = 0; k < KEPT; k++) {
            keptDeeds[k].size = MISSING;
        }
        return now.size;
    }

    public int station(int i, int what) {
        if (!now.has(i) || what < 0 || what >= TOLD_OF_STATION) {
            return BAD;
        }
        toldAsked = now.stations[i].told(what, now.talked);
        return 1;
    }

    public int mark(int i, int kind) {
        if (!now.has(i) || kind <= PLAIN || kind >= KINDS) {
            return BAD;
        }
        Station one = now.stations[i];
        if (!one.isOf(kind)) {
            return found(UNLIKE);
        }
        return one.tellsAs(kind, now.slotNumber, now.talked);
    }

    // ---- 2 deeds

    public int slot() {
        if (now.size == 0 || now.slotNumber >= LAST_SLOT) {
            return STATE;
        }
        if (!deeds.hasRoomFor(1)) {
            return FULL;
        }
        return carryOut(deedOf(DEED_SLOT, 0, 0));
    }

    public int give(int i, int n) {
        if (!now.has(i) || n < 1 || n > 9) {
            return BAD;
        }
        if (now.stations[i].letters + n > MOST_LETTERS) {
            return SPENT;
        }
        if (!deeds.hasRoomFor(1)) {
            return FULL;
        }
        return carryOut(deedOf(DEED_GIVE, i, n));
    }

    public int drop(int i) {
        if (!now.has(i)) {
            return BAD;
        }
        if (now.stations[i].letters == 0) {
            return STATE;
        }
        if (!deeds.hasRoomFor(1)) {
            return FULL;
        }
        return carryOut(deedOf(DEED_DROP, i, 0));
    }

    public int first(int i, int n) {
        if (!now.has(i) || n < 0 || n >= FIRSTS) {
            return BAD;
        }
        if (now.stations[i].firstWait == n) {
            return STATE;
        }
        if (!deeds.hasRoomFor(1)) {
            return FULL;
        }
        return carryOut(deedOf(DEED_FIRST, i, n));
    }

    public int undo(int n) {
        if (n < 0 || n > deeds.size) {
            return BAD;
        }
        int undone = deeds.size - n;
        deeds.size = n;
        goOnFromStart();
        return undone;
    }

    public int keep(int k) {
        if (!isKept(k)) {
            return BAD;
        }
        if (now.size == 0) {
            return STATE;
        }
        keptDeeds[k].become(deeds);
        return deeds.size;
    }

    public int on(int k) {
        if (!isKept(k)) {
            return BAD;
        }
        if (keptDeeds[k].size == MISSING) {
            return found(NOTHING);
        }
        deeds.become(keptDeeds[k]);
        goOnFromStart();
        return deeds.size;
    }

    // ---- 3 what comes

    public int talks() {
        int who = now.talkers(0);
        toldAsked = Integer.bitCount(who) == 1 ? 1 : 0;
        return who;
    }

    public int later(int i, int n) {
        if (!now.has(i) || n < 0 || n > MOST_AHEAD) {
            return BAD;
        }
        toldAsked = heardAside(n, 0);
        return aside.stations[i].letters;
    }

    public int ends() {
        if (now.size == 0) {
            return STATE;
        }
        aside.become(now);
        int end = aside.goToEnd();
        if (end != NONE) {
            toldAsked = aside.lost - now.lost;
        }
        return end;
    }

    public int clash() {
        if (now.size == 0) {
            return STATE;
        }
        aside.become(now);
        for (int n = 1; n <= FARTHEST; n++) {
            int who = aside.goBy(0);
            if (Integer.bitCount(who) > 1) {
                toldAsked = who;
                return n;
            }
        }
        return NONE;
    }

    public int most(int n) {
        if (n < 1 || n > MOST_AHEAD) {
            return BAD;
        }
        if (now.size == 0) {
            return STATE;
        }
        countHeardAside(n);
        int who = NONE;
        int often = 0;
        for (int i = 0; i < now.size; i++) {
            if (heardOf[i] > often) {
                who = i;
                often = heardOf[i];
            }
        }
        if (who != NONE) {
            toldAsked = often;
        }
        return who;
    }

    // ---- 4 what to do

    public int best(int i) {
        if (!now.has(i)) {
            return BAD;
        }
        int best = NONE;
        int soonest = FARTHEST + 1;
        for (int n = 0; n < FIRSTS; n++) {
            aside.become(now);
            aside.stations[i].firstWait = n;
            int end = aside.goToEnd();
            if (end != NONE && end < soonest) {
                best = n;
                soonest = end;
            }
        }
        if (best != NONE) {
            toldAsked = soonest;
        }
        return best;
    }

    public int silence(int n) {
        if (n < 1 || n > MOST_SHORT) {
            return BAD;
        }
        if (now.size == 0) {
            return STATE;
        }
        int best = 0;
        int most = -1;
        for (int silent = 0; silent < now.sets(); silent++) {
            int heard = heardAside(n, silent);
            boolean fewer = Integer.bitCount(silent) < Integer.bitCount(best);
            if (heard > most || heard == most && fewer) {
                best = silent;
                most = heard;
            }
        }
        toldAsked = most;
        return best;
    }

    // ---- 5 which station it is

    public int kinds(int i, int r) {
        int refused = refusedWatch(i, r);
        return refused != 0 ? refused : kindsThatFit(i, r);
    }

    public int firsts(int i, int r) {
        int refused = refusedWatch(i, r);
        if (refused != 0) {
            return refused;
        }
        int fit = 0;
        for (int n = 0; n < FIRSTS; n++) {
            aside.become(now);
            aside.stations[i].firstWait = n;
            if (asideFits(r)) {
                fit |= 1 << n;
            }
        }
        return fit;
    }

    public int test(int i, int r) {
        int refused = refusedWatch(i, r);
        if (refused != 0) {
            return refused;
        }
        int fit = kindsThatFit(i, r);
        if (fit == 0) {
            return NONE;
        }
        watch(i, fit);
        int best = 0;
        int least = KINDS + 1;
        for (int n = 0; n < MOST_WATCHED; n++) {
            int part = greatestPart(fit, n);
            if (part < least) {
                best = n + 1;
                least = part;
            }
        }
        toldAsked = least;
        return best;
    }

    // ---- 6 by turns

    public int duel(int n) {
        if (n < 0 || n > MOST_TURNS) {
            return BAD;
        }
        if (now.size == 0) {
            return STATE;
        }
        trial.become(now);
        return endByTurns(n, true, 0, FARTHEST + 1);
    }

    // ---- 7 chances, lots

    public int odds(int n, int p) {
        return tellMean(n, p, true);
    }

    public int mid(int n, int p) {
        return tellMean(n, p, false);
    }

    public int lots(int n, int seed) {
        if (n < 1 || n > MOST_LOTS || seed < 1 || seed >= LOT_MODULUS) {
            return BAD;
        }
        if (now.size == 0) {
            return STATE;
        }
        if (!deeds.hasRoomFor(n)) {
            return FULL;
        }
        long lot = seed;
        for (int k = 0; k < n; k++) {
            lot = lot * LOT_FACTOR % LOT_MODULUS;
            carryOut(deedByLot((int) lot));
        }
        return now.heard;
    }

    // ---- 8 what is told

    public int asked() {
        return toldAsked;
    }

    public long upper() {
        return toldUpper;
    }

    public long lower() {
        return toldLower;
    }

    public int count(int what) {
        return what < 0 || what >= COUNTS ? BAD : counted(what);
    }

    public int finding() {
        return latestFinding;
    }

    public int findings(int f) {
        return f < NOTHING || f > SIZE ? BAD : findingCounts[f];
    }

    public long digest() {
        long h = 17;
        for (int what = 0; what < COUNTS; what++) {
            h = 31 * h + counted(what);
        }
        for (int i = 0; i < now.size; i++) {
            for (int what = 0; what < TOLD_OF_STATION; what++) {
                h = 31 * h + now.stations[i].told(what, now.talked);
            }
        }
        for (int k = 0; k < KEPT; k++) {
            h = 31 * h + keptDeeds[k].size;
        }
        for (int r = 0; r < ROWS; r++) {
            h = 31 * h + rowSizes[r];
            for (int i = 0; i < rowSizes[r]; i++) {
                h = 31 * h + rows[r][i];
            }
        }
        for (int t = 0; t < TEXTS; t++) {
            h = 31 * h + textSizes[t];
            for (int i = 0; i < textSizes[t]; i++) {
                h = 31 * h + texts[t][i];
            }
        }
        return h;
    }

    // ---- what is refused

    private int found(int f) {
        latestFinding = f;
        if (f >= NOTHING && f <= SIZE) {
            findingCounts[f]++;
        }
        return FINDING;
    }

    private static boolean isRow(int r) {
        return r >= 0 && r < ROWS;
    }

    private static boolean isText(int t) {
        return t >= 0 && t < TEXTS;
    }

    private static boolean isKept(int k) {
        return k >= 0 && k < KEPT;
    }

    /** Whether n places from i on are within a size; told so that no sum can wrap around. */
    private static boolean holds(int size, int i, int n) {
        return i >= 0 && n <= size && i <= size - n;
    }

    /** 0 if place i of row r is there. */
    private int refusedPlace(int r, int i) {
        if (!isRow(r)) {
            return BAD;
        }
        if (rowSizes[r] == MISSING) {
            return found(NOTHING);
        }
        if (i < 0 || i >= rowSizes[r]) {
            return found(BEYOND);
        }
        return 0;
    }

    /** 0 if row r tells how many talked, and station i is there. */
    private int refusedWatch(int i, int r) {
        if (!now.has(i) || !isRow(r)) {
            return BAD;
        }
        int size = rowSizes[r];
        if (size == MISSING) {
            return found(NOTHING);
        }
        if (size < 1 || size > MOST_WATCHED) {
            return found(SIZE);
        }
        for (int n = 0; n < size; n++) {
            if (rows[r][n] < 0 || rows[r][n] > MOST_STATIONS) {
                return found(UNLIKE);
            }
        }
        return 0;
    }

    // ---- deeds

    /** A deed as one number, so that a list of them is a row of ints. */
    private static int deedOf(int what, int i, int n) {
        return what * 100 + i * 10 + n;
    }

    private int carryOut(int deed) {
        deeds.add(deed);
        return now.act(deed);
    }

    private void goOnFromStart() {
        now.become(start);
        for (int d = 0; d < deeds.size; d++) {
            now.act(deeds.numbers[d]);
        }
    }

    private int deedByLot(int lot) {
        int i = now.size < 1 ? 0 : lot / 8 % now.size;
        int what = lot % 8;
        if (what <= 1) {
            boolean fits = now.stations[i].letters < MOST_LETTERS;
            return fits ? deedOf(DEED_GIVE, i, 1) : deedOf(DEED_NONE, 0, 0);
        }
        if (what == 2) {
            return deedOf(DEED_DROP, i, 0);
        }
        return now.slotNumber < LAST_SLOT ? deedOf(DEED_SLOT, 0, 0) : deedOf(DEED_NONE, 0, 0);
    }

    // ---- aside

    /** How many letters are heard in n slots, tried aside. */
    private int heardAside(int n, int silent) {
        aside.become(now);
        for (int k = 0; k < n && aside.lettersBut(silent) > 0; k++) {
            aside.goBy(silent);
        }
        return aside.heard - now.heard;
    }

    private void countHeardAside(int n) {
        for (int i = 0; i < MOST_STATIONS; i++) {
            heardOf[i] = 0;
        }
        aside.become(now);
        for (int k = 0; k < n; k++) {
            int who = aside.goBy(0);
            for (int i = 0; i < now.size; i++) {
                if (who == 1 << i) {
                    heardOf[i]++;
                }
            }
        }
    }

    private int kindsThatFit(int i, int r) {
        int fit = 0;
        for (int kind = 0; kind < KINDS; kind++) {
            aside.become(now);
            aside.stations[i].kind = kind;
            if (asideFits(r)) {
                fit |= 1 << kind;
            }
        }
        return fit;
    }

    /** Whether as many talk aside as a row tells. */
    private boolean asideFits(int r) {
        for (int n = 0; n < rowSizes[r]; n++) {
            if (Integer.bitCount(aside.goBy(0)) != rows[r][n]) {
                return false;
            }
        }
        return true;
    }

    /** Notes how many talk in each of the next slots, were station i of each of some kinds. */
    private void watch(int i, int someKinds) {
        for (int kind = 0; kind < KINDS; kind++) {
            if ((someKinds >> kind & 1) == 0) {
                continue;
            }
            aside.become(now);
            aside.stations[i].kind = kind;
            for (int n = 0; n < MOST_WATCHED; n++) {
                watched[kind][n] = Integer.bitCount(aside.goBy(0));
            }
        }
    }

    /** Of how many of some kinds slot n would at worst not tell which it is. */
    private int greatestPart(int someKinds, int n) {
        int greatest = 0;
        for (int kind = 0; kind < KINDS; kind++) {
            int part = 0;
            for (int other = 0; other < KINDS; other++) {
                if ((someKinds >> other & 1) != 0 && watched[other][n] == watched[kind][n]) {
                    part++;
                }
            }
            if ((someKinds >> kind & 1) != 0) {
                greatest = Math.max(greatest, part);
            }
        }
        return greatest;
    }

    /** The end that turns lead to; tries no more turns once they can't lead out of low .. high. */
    private int endByTurns(int turns, boolean wantsLate, int low, int high) {
        if (turns <= 0) {
            aside.become(trial);
            int end = aside.goToEnd();
            return end == NONE ? FARTHEST + 1 : end;
        }
        int least = low;
        int greatest = high;
        for (int i = 0; i < trial.size && least < greatest; i++) {
            trial.stations[i].letters++;
            int end = endByTurns(turns - 1, !wantsLate, least, greatest);
            trial.stations[i].letters--;
            if (wantsLate) {
                least = Math.max(least, end);
            } else {
                greatest = Math.min(greatest, end);
            }
        }
        return wantsLate ? least : greatest;
    }

    // ---- chances

    /** Tells the mean over all who may fall out: of 1 where all are done (else 0), or of letters heard. */
    private int tellMean(int n, int p, boolean ofBeingDone) {
        if (n < 0 || n > MOST_SHORT || p < 0 || p > TWELVE) {
            return BAD;
        }
        if (now.size == 0) {
            return STATE;
        }
        long sum = 0;
        long whole = 0;
        for (int out = 0; out < now.sets(); out++) {
            long weight = weightOf(out, p);
            whole += weight;
            if (weight == 0) {
                continue;
            }
            int heard = heardAside(n, out);
            int done = aside.lettersBut(out) == 0 ? 1 : 0;
            sum += weight * (ofBeingDone ? done : heard);
        }
        tellRatio(sum, whole);
        return 1;
    }

    private long weightOf(int out, int p) {
        long weight = 1;
        for (int i = 0; i < now.size; i++) {
            weight *= (out >> i & 1) != 0 ? p : TWELVE - p;
        }
        return weight;
    }

    private void tellRatio(long above, long below) {
        long a = above;
        long b = below;
        for (int k = 0; k < 100 && b != 0; k++) {
            long rest = a % b;
            a = b;
            b = rest;
        }
        if (a > 0) {
            toldUpper = above / a;
            toldLower = below / a;
        }
    }

    // ---- counts

    private int counted(int what) {
        switch (what) {
            case 0: return now.size;
            case 1: return now.slotNumber;
            case 2: return deeds.size;
            case 3: return now.lettersBut(0);
            case 4: return now.heard;
            case 5: return now.lost;
            case 6: return now.talked ? 1 : 0;
            case 7: return countThere(rowSizes);
            case 8: return countThere(textSizes);
            case 9: return countKept();
            case 10: return now.countOf(DOUBLE);
            default: return now.countOf(POLITE);
        }
    }

    private static int countThere(int[] sizes) {
        int there = 0;
        for (int size : sizes) {
            if (size != MISSING) {
                there++;
            }
        }
        return there;
    }

    private int countKept() {
        int there = 0;
        for (int k = 0; k < KEPT; k++) {
            if (keptDeeds[k].size != MISSING) {
                there++;
            }
        }
        return there;
    }

    /** What was done, in its order; of a kept air that is missing the size is MISSING. */
    private static final class Deeds {
        final int[] numbers = new int[MOST_DEEDS];
        int size = 0;

        boolean hasRoomFor(int n) {
            return size + n <= MOST_DEEDS;
        }

        void add(int deed) {
            if (size >= 0 && size < MOST_DEEDS) {
                numbers[size] = deed;
                size++;
            }
        }

        void become(Deeds other) {
            System.arraycopy(other.numbers, 0, numbers, 0, MOST_DEEDS);
            size = other.size;
        }
    }

    /** One station, and how its kind wants to talk and waits. */
    private static final class Station {
        int kind;
        int firstWait;
        int step;
        int letters;
        int waiting;
        int clashes;

        void become(Station other) {
            kind = other.kind;
            firstWait = other.firstWait;
            step = other.step;
            letters = other.letters;
            waiting = other.waiting;
            clashes = other.clashes;
        }

        /** Kinds lie at most two deep below PLAIN, of which all are. */
        boolean isOf(int wanted) {
            if (wanted == PLAIN || kind == wanted) {
                return true;
            }
            return kind >= 0 && kind < KINDS && KIND_ABOVE[kind] == wanted;
        }

        boolean wants(boolean talked) {
            return letters > 0 && waiting == 0 && !(talked && isOf(POLITE));
        }

        boolean holdsBack(boolean talked) {
            return letters > 0 && waiting == 0 && talked && isOf(POLITE);
        }

        int plainWait(int c) {
            return Math.min(LONGEST_WAIT, firstWait + c * step);
        }

        int doubleWait(int c) {
            // Seven doublings of any step are beyond the longest wait: more would only wrap around.
            int doublings = Math.max(0, Math.min(c - 1, 7));
            return Math.min(LONGEST_WAIT, firstWait + (step << doublings));
        }

        int waitBehind(int c, int inSlot) {
            switch (kind) {
                case DOUBLE:
                    return doubleWait(c);
                case STUBBORN:
                    return firstWait;
                case LOTTERY:
                    int parts = doubleWait(c) + 1;
                    return parts < 1 ? 0 : inSlot * step % parts;
                default:
                    return plainWait(c);
            }
        }

        void isHeard() {
            letters--;
            clashes = 0;
        }

        /** Whether it gave up, and so lost a letter. */
        boolean meets(int inSlot) {
            clashes++;
            if (kind == SHY && clashes == LAST_CLASH_OF_SHY) {
                letters--;
                rest();
                return true;
            }
            waiting = waitBehind(clashes, inSlot);
            return false;
        }

        void rest() {
            clashes = 0;
            waiting = 0;
        }

        int told(int what, boolean talked) {
            switch (what) {
                case 0: return kind;
                case 1: return firstWait;
                case 2: return step;
                case 3: return letters;
                case 4: return waiting;
                case 5: return clashes;
                default: return wants(talked) ? 1 : 0;
            }
        }

        int tellsAs(int wanted, int inSlot, boolean talked) {
            int next = clashes + 1;
            int wait = waitBehind(next, inSlot);
            switch (wanted) {
                case DOUBLE: return wait - plainWait(next) + 100;
                case POLITE: return holdsBack(talked) ? 1 : 0;
                case STUBBORN: return plainWait(next) - wait;
                case LOTTERY: return doubleWait(next) - wait;
                default: return LAST_CLASH_OF_SHY - clashes;
            }
        }
    }

    /** An air at one time: its stations, the slot, what was heard and lost so far. */
    private static final class Air {
        final Station[] stations = new Station[MOST_STATIONS];
        int size = 0;
        int slotNumber = 0;
        int heard = 0;
        int lost = 0;
        boolean talked = false;

        Air() {
            for (int i = 0; i < MOST_STATIONS; i++) {
                stations[i] = new Station();
            }
        }

        void become(Air other) {
            size = other.size;
            slotNumber = other.slotNumber;
            heard = other.heard;
            lost = other.lost;
            talked = other.talked;
            for (int i = 0; i < size; i++) {
                stations[i].become(other.stations[i]);
            }
        }

        boolean has(int i) {
            return i >= 0 && i < size;
        }

        /** How many sets of its stations there are. */
        int sets() {
            return 1 << size;
        }

        /** Becomes the air that a text tells, as it is at first: the place of the fault, or NONE. */
        int read(byte[] text, int length) {
            size = 0;
            slotNumber = 0;
            heard = 0;
            lost = 0;
            talked = false;
            int place = 0;
            while (place < length) {
                if (text[place] == BLANK) {
                    place++;
                    continue;
                }
                int fault = readStation(text, length, place);
                if (fault != NONE) {
                    return fault;
                }
                place += ITEM_SIZE;
            }
            return size < FEWEST_STATIONS ? length : NONE;
        }

        private int readStation(byte[] text, int length, int place) {
            int kind = kindOf(text[place]);
            if (size >= MOST_STATIONS || kind == MISSING) {
                return place;
            }
            for (int k = 1; k < ITEM_SIZE; k++) {
                if (place + k >= length) {
                    return length;
                }
                int figure = text[place + k] - FIGURE_0;
                // Only a step can't be 0.
                if (figure < (k == 2 ? 1 : 0) || figure > 9) {
                    return place + k;
                }
            }
            Station next = stations[size];
            next.kind = kind;
            next.firstWait = text[place + 1] - FIGURE_0;
            next.step = text[place + 2] - FIGURE_0;
            next.letters = text[place + 3] - FIGURE_0;
            next.rest();
            size++;
            return NONE;
        }

        private static int kindOf(int letter) {
            for (int kind = 0; kind < KINDS; kind++) {
                if (KIND_LETTERS[kind] == letter) {
                    return kind;
                }
            }
            return MISSING;
        }

        int talkers(int silent) {
            int who = 0;
            for (int i = 0; i < size; i++) {
                if ((silent >> i & 1) == 0 && stations[i].wants(talked)) {
                    who |= 1 << i;
                }
            }
            return who;
        }

        /** A slot goes by in which some are silent: who talked. */
        int goBy(int silent) {
            int who = talkers(silent);
            boolean alone = Integer.bitCount(who) == 1;
            for (int i = 0; i < size; i++) {
                Station one = stations[i];
                if ((who >> i & 1) == 0) {
                    if (one.waiting > 0 && (silent >> i & 1) == 0) {
                        one.waiting--;
                    }
                } else if (alone) {
                    one.isHeard();
                    heard++;
                } else if (one.meets(slotNumber)) {
                    lost++;
                }
            }
            talked = who != 0;
            slotNumber++;
            return who;
        }

        /** Goes on until nobody has letters: behind how many slots, or NONE. */
        int goToEnd() {
            for (int n = 0; n <= FARTHEST; n++) {
                if (lettersBut(0) == 0) {
                    return n;
                }
                goBy(0);
            }
            return NONE;
        }

        /** Letters of all but some. */
        int lettersBut(int some) {
            int letters = 0;
            for (int i = 0; i < size; i++) {
                if ((some >> i & 1) == 0) {
                    letters += stations[i].letters;
                }
            }
            return letters;
        }

        int countOf(int kind) {
            int there = 0;
            for (int i = 0; i < size; i++) {
                if (stations[i].isOf(kind)) {
                    there++;
                }
            }
            return there;
        }

        /** Does a deed, and tells what its call answers. */
        int act(int deed) {
            int what = deed / 100;
            int i = deed / 10 % 10;
            int n = deed % 10;
            if (!has(i)) {
                return 0;
            }
            Station one = stations[i];
            int letters = one.letters;
            int firstWait = one.firstWait;
            switch (what) {
                case DEED_SLOT:
                    return Integer.bitCount(goBy(0));
                case DEED_GIVE:
                    one.letters = letters + n;
                    return one.letters;
                case DEED_DROP:
                    one.letters = 0;
                    one.rest();
                    return letters;
                case DEED_FIRST:
                    one.firstWait = n;
                    return firstWait;
                default:
                    return 0;
            }
        }
    }
}

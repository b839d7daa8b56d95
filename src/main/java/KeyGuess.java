/**
 * Guesses where a key lies in a row of keys that rises: the ranks are told by the fewest straight
 * pieces with a sure slack, and keys that came or went since are kept aside until the row is made
 * anew. The document's promises say what each call answers.
 */
public final class KeyGuess {
    public static final int NONE = -1, BAD = -2, NOT = -3, FULL = -4;

    private static final int MOST_NUMBER = 1000000;
    private static final int MOST_KEYS = 60;
    private static final int MOST_ASIDE = 8;
    private static final int MOST_SLACK = 8;
    private static final int FIRST_SLACK = 2;
    private static final int MOST_LEVELS = 10;
    private static final int MOST_FILTER_SPAN = 2000;
    private static final int MOST_POISON_SPAN = 40;

    private final Keys now;
    private final Keys row;
    private final Keys tried;
    private final Cuts cuts;
    private final Tower tower;
    private final Filter filter;
    private final Look look;
    private int leeway;
    private int newKeys;
    private int oldKeys;
    private int cost;

    public KeyGuess() {
        now = new Keys();
        row = new Keys();
        tried = new Keys();
        cuts = new Cuts();
        tower = new Tower();
        filter = new Filter();
        look = new Look();
        leeway = FIRST_SLACK;
    }

    // ---- keys

    public int put(int x) {
        if (!isNumber(x)) {
            return BAD;
        }
        if (now.has(x)) {
            return NOT;
        }
        if (now.size() >= MOST_KEYS) {
            return FULL;
        }
        if (row.has(x)) {
            oldKeys--;
        } else {
            clearAsideIfFull();
            newKeys++;
        }
        now.add(x);
        filter.add(x);
        return now.size();
    }

    public int take(int x) {
        if (!isNumber(x)) {
            return BAD;
        }
        if (!now.has(x)) {
            return NOT;
        }
        if (row.has(x)) {
            clearAsideIfFull();
            oldKeys++;
        } else {
            newKeys--;
        }
        now.drop(x);
        return now.size();
    }

    public int make() {
        makeRow();
        return cost;
    }

    public int slack(int e) {
        if (e < 0 || e > MOST_SLACK) {
            return BAD;
        }
        int before = leeway;
        leeway = e;
        makeRow();
        return before;
    }

    public int place(int x) {
        if (!isNumber(x)) {
            return BAD;
        }
        return now.has(x) ? now.below(x) : NONE;
    }

    public int at(int place) {
        if (place < 0 || place >= now.size()) {
            return BAD;
        }
        return now.key(place);
    }

    public int range(int a, int b) {
        if (!isSpan(a, b, MOST_NUMBER)) {
            return BAD;
        }
        return now.within(a, b);
    }

    public long sum(int a, int b) {
        if (!isSpan(a, b, MOST_NUMBER)) {
            return BAD;
        }
        return now.total(a, b);
    }

    // ---- pieces

    public int pieces(int level) {
        if (level < 0 || level >= MOST_LEVELS) {
            return BAD;
        }
        return tower.width(level);
    }

    public int piece(int level, int k, int what) {
        return tower.tell(level, k, what);
    }

    public int levels() {
        return tower.height();
    }

    public int guess(int x) {
        if (!isNumber(x)) {
            return BAD;
        }
        return tower.height() == 0 ? NONE : tower.rankBy(tower.pieceFor(x), x);
    }

    public int find(int x) {
        if (!isNumber(x)) {
            return BAD;
        }
        look.run(row, tower, x, leeway);
        return look.met();
    }

    public int looks(int x) {
        if (!isNumber(x)) {
            return BAD;
        }
        look.run(row, tower, x, leeway);
        return look.ranksSeen();
    }

    // ---- filter, poison

    public int maybe(int x) {
        if (!isNumber(x)) {
            return BAD;
        }
        return filter.passes(x) ? 1 : 0;
    }

    public int wrong(int a, int b) {
        if (!isSpan(a, b, MOST_FILTER_SPAN)) {
            return BAD;
        }
        int passing = 0;
        for (int x = a; x <= b; x++) {
            if (filter.passes(x)) {
                passing++;
            }
        }
        // The filter never misses, so every key there now is among those that pass.
        return passing - now.within(a, b);
    }

    public int poison(int a, int b, int what) {
        if (!isSpan(a, b, MOST_POISON_SPAN) || what < 0 || what > 1) {
            return BAD;
        }
        if (now.size() >= MOST_KEYS) {
            return FULL;
        }
        int worst = NONE;
        int most = NONE;
        for (int x = a; x <= b; x++) {
            int many = now.has(x) ? NONE : piecesWith(x);
            if (many > most) {
                most = many;
                worst = x;
            }
        }
        return what == 0 ? worst : most;
    }

    public int count(int what) {
        switch (what) {
            case 0:
                return now.size();
            case 1:
                return row.size();
            case 2:
                return newKeys;
            case 3:
                return oldKeys;
            case 4:
                return cost;
            case 5:
                return filter.bitsSet();
            default:
                return BAD;
        }
    }

    private static boolean isNumber(int x) {
        return x >= 0 && x <= MOST_NUMBER;
    }

    private static boolean isSpan(int a, int b, int mostApart) {
        return isNumber(a) && isNumber(b) && a <= b && b - a <= mostApart;
    }

    /** Ahead of a ninth key aside: the row is made without it, so that it is aside alone. */
    private void clearAsideIfFull() {
        if (newKeys + oldKeys >= MOST_ASIDE) {
            makeRow();
        }
    }

    private void makeRow() {
        row.copy(now);
        newKeys = 0;
        oldKeys = 0;
        cost += row.size();
        filter.clear();
        for (int k = 0; k < row.size(); k++) {
            filter.add(row.key(k));
        }
        tower.build(row, cuts, leeway);
    }

    private int piecesWith(int x) {
        tried.copy(now);
        tried.add(x);
        cuts.cut(tried, leeway);
        return cuts.fewestFrom(0);
    }

    /** Numbers that rise, no two the same, at most as many as there may be keys. */
    private static final class Keys {
        private final int[] cells;
        // Never above the length of cells: what would go beyond it is not taken.
        private int size;

        Keys() {
            cells = new int[MOST_KEYS];
        }

        int size() {
            return size;
        }

        int key(int k) {
            return k >= 0 && k < size ? cells[k] : NONE;
        }

        int below(int x) {
            int k = 0;
            while (k < size && cells[k] < x) {
                k++;
            }
            return k;
        }

        boolean has(int x) {
            int k = below(x);
            return k < size && cells[k] == x;
        }

        int within(int a, int b) {
            return below(b + 1) - below(a);
        }

        long total(int a, int b) {
            long total = 0;
            int end = below(b + 1);
            for (int k = below(a); k < end; k++) {
                total += key(k);
            }
            return total;
        }

        void clear() {
            size = 0;
        }

        void copy(Keys other) {
            size = 0;
            for (int k = 0; k < other.size(); k++) {
                append(other.key(k));
            }
        }

        /** Only for a number above all that are here. */
        void append(int x) {
            if (size < cells.length) {
                cells[size] = x;
                size++;
            }
        }

        void add(int x) {
            if (size >= cells.length || has(x)) {
                return;
            }
            int k = below(x);
            for (int m = size; m > k; m--) {
                cells[m] = cells[m - 1];
            }
            cells[k] = x;
            size++;
        }

        void drop(int x) {
            if (!has(x)) {
                return;
            }
            for (int k = below(x) + 1; k < size; k++) {
                cells[k - 1] = cells[k];
            }
            size--;
        }
    }

    /**
     * The fewest pieces from each rank to the end of a row. A piece starts at its first key exactly,
     * so a later start may reach less far: taking the longest piece each time does not give the
     * fewest, and all lengths are tried.
     */
    private static final class Cuts {
        private final int[] cells;
        private final int[] fewest;
        private final int[] lasts;
        private final int[] slopeNums;
        private final int[] slopeDens;

        Cuts() {
            cells = new int[MOST_KEYS];
            fewest = new int[MOST_KEYS + 1];
            lasts = new int[MOST_KEYS];
            slopeNums = new int[MOST_KEYS];
            slopeDens = new int[MOST_KEYS];
        }

        void cut(Keys keys, int e) {
            int n = Math.min(keys.size(), MOST_KEYS);
            for (int k = 0; k < n; k++) {
                cells[k] = keys.key(k);
            }
            fewest[n] = 0;
            for (int i = n - 1; i >= 0; i--) {
                cutFrom(i, n, e);
            }
        }

        int fewestFrom(int i) {
            return isRank(i) ? fewest[i] : 0;
        }

        int lastOf(int i) {
            return isRank(i) ? lasts[i] : i;
        }

        int slopeNum(int i) {
            return isRank(i) ? slopeNums[i] : 0;
        }

        int slopeDen(int i) {
            return isRank(i) ? slopeDens[i] : 1;
        }

        private static boolean isRank(int i) {
            return i >= 0 && i < MOST_KEYS;
        }

        /**
         * Needs the fewest from all later ranks. Fractions are compared crosswise: at most 60 + 8
         * ranks times 1000000 fits an int.
         */
        private void cutFrom(int i, int n, int e) {
            if (i < 0 || i >= n || n > MOST_KEYS) {
                return;
            }
            int lowNum = 0;
            int lowDen = 1;
            // One over nothing: above every fraction, as no key bounds the slope yet.
            int highNum = 1;
            int highDen = 0;
            fewest[i] = fewest[i + 1] + 1;
            lasts[i] = i;
            slopeNums[i] = lowNum;
            slopeDens[i] = lowDen;
            for (int j = i + 1; j < n; j++) {
                int run = cells[j] - cells[i];
                int least = j - i - e;
                int most = j - i + e;
                if (least * lowDen > lowNum * run) {
                    lowNum = least;
                    lowDen = run;
                }
                if (most * highDen < highNum * run) {
                    highNum = most;
                    highDen = run;
                }
                if (lowNum * highDen > highNum * lowDen) {
                    break;
                }
                // Of as few pieces the longer first one is wanted, so the same number counts too.
                if (fewest[j + 1] + 1 <= fewest[i]) {
                    fewest[i] = fewest[j + 1] + 1;
                    lasts[i] = j;
                    slopeNums[i] = lowNum;
                    slopeDens[i] = lowDen;
                }
            }
        }
    }

    /** The levels of pieces over pieces, all in the same rows, one level behind the other. */
    private static final class Tower {
        private final Keys base;
        private final int[] starts;
        // Two neighbours always go into one piece, so a level has at most half as many pieces as
        // ranks: 30 + 15 + 8 + 4 + 2 + 1 in all, no more than there may be keys.
        private final int[] froms;
        private final int[] lasts;
        private final int[] firsts;
        private final int[] slopeNums;
        private final int[] slopeDens;
        private int height;
        private int size;

        Tower() {
            base = new Keys();
            starts = new int[MOST_LEVELS + 1];
            froms = new int[MOST_KEYS];
            lasts = new int[MOST_KEYS];
            firsts = new int[MOST_KEYS];
            slopeNums = new int[MOST_KEYS];
            slopeDens = new int[MOST_KEYS];
        }

        int height() {
            return height;
        }

        int width(int level) {
            return level >= 0 && level < height && level < MOST_LEVELS
                    ? starts[level + 1] - starts[level] : 0;
        }

        int tell(int level, int k, int what) {
            if (k < 0 || k >= width(level)) {
                return BAD;
            }
            int p = starts[level] + k;
            if (!isPiece(p)) {
                return BAD;
            }
            switch (what) {
                case 0:
                    return froms[p];
                case 1:
                    return lasts[p];
                case 2:
                    return firsts[p];
                case 3:
                    return slopeNums[p];
                case 4:
                    return slopeDens[p];
                default:
                    return BAD;
            }
        }

        void build(Keys row, Cuts cuts, int e) {
            height = 0;
            size = 0;
            base.copy(row);
            boolean more = base.size() > 0;
            for (int level = 0; level < MOST_LEVELS && more; level++) {
                cuts.cut(base, e);
                raise(level, cuts);
                more = width(level) > 1;
                layBase(level);
            }
        }

        /** Of level 0, whose pieces stand first. */
        int pieceFor(int x) {
            int found = 0;
            for (int p = 1; p < width(0) && isPiece(p) && firsts[p] <= x; p++) {
                found = p;
            }
            return found;
        }

        int rankBy(int p, int x) {
            if (!isPiece(p) || slopeDens[p] <= 0) {
                return NONE;
            }
            int rise = Math.floorDiv(slopeNums[p] * (x - firsts[p]), slopeDens[p]);
            return Math.max(froms[p], Math.min(lasts[p], froms[p] + rise));
        }

        int fromOf(int p) {
            return isPiece(p) ? froms[p] : 0;
        }

        int lastOf(int p) {
            return isPiece(p) ? lasts[p] : NONE;
        }

        private boolean isPiece(int p) {
            return p >= 0 && p < size && p < MOST_KEYS;
        }

        private void raise(int level, Cuts cuts) {
            if (level < 0 || level >= MOST_LEVELS) {
                return;
            }
            starts[level] = size;
            int from = 0;
            for (int k = 0; k < MOST_KEYS && from < base.size(); k++) {
                lay(from, cuts);
                from = cuts.lastOf(from) + 1;
            }
            starts[level + 1] = size;
            height = level + 1;
        }

        private void lay(int from, Cuts cuts) {
            if (size < 0 || size >= MOST_KEYS) {
                return;
            }
            int num = cuts.slopeNum(from);
            int den = cuts.slopeDen(from);
            int shared = commonDivisor(num, den);
            froms[size] = from;
            lasts[size] = cuts.lastOf(from);
            firsts[size] = base.key(from);
            slopeNums[size] = shared > 0 ? num / shared : num;
            slopeDens[size] = shared > 0 ? den / shared : den;
            size++;
        }

        private void layBase(int level) {
            base.clear();
            for (int k = 0; k < width(level); k++) {
                base.append(tell(level, k, 2));
            }
        }

        private static int commonDivisor(int a, int b) {
            // Euclid's steps at least halve the number every second time: 64 are enough for any int.
            for (int step = 0; step < 64 && b != 0; step++) {
                int rest = a % b;
                a = b;
                b = rest;
            }
            return a;
        }
    }

    /** 64 bits, two of them for each key: never misses a key, but may pass what is none. */
    private static final class Filter {
        private long bits;

        void clear() {
            bits = 0;
        }

        void add(int x) {
            bits |= bitsOf(x);
        }

        boolean passes(int x) {
            long wanted = bitsOf(x);
            return (bits & wanted) == wanted;
        }

        int bitsSet() {
            return Long.bitCount(bits);
        }

        private static long bitsOf(int x) {
            return (1L << (x % 61)) | (1L << (x / 61 % 64));
        }
    }

    /** One look for a number around its guess, and what came of it. */
    private static final class Look {
        private int met;
        private int seen;

        int met() {
            return met;
        }

        int ranksSeen() {
            return seen;
        }

        void run(Keys row, Tower tower, int x, int e) {
            met = NONE;
            seen = 0;
            if (tower.height() == 0) {
                return;
            }
            int p = tower.pieceFor(x);
            int guessed = tower.rankBy(p, x);
            for (int turn = 0; turn <= 2 * e && met == NONE; turn++) {
                int rank = guessed + away(turn);
                if (rank >= tower.fromOf(p) && rank <= tower.lastOf(p)) {
                    seen++;
                    met = row.key(rank) == x ? rank : NONE;
                }
            }
        }

        /** 0, -1, 1, -2, 2, and so on. */
        private static int away(int turn) {
            return turn % 2 == 0 ? turn / 2 : -(turn + 1) / 2;
        }
    }
}

import java.math.BigInteger;
import java.util.ArrayList;
import java.util.List;
import java.util.TreeSet;

/** The document said once more, as plainly and as slowly as can be, to compare the class with. */
final class Model {
    /** One piece: ranks i to j, the least slope num / den in lowest terms. */
    record Piece(int i, int j, int firstKey, long num, long den) { }

    private final TreeSet<Integer> now = new TreeSet<>();
    private final TreeSet<Integer> cameNew = new TreeSet<>();
    private final TreeSet<Integer> wentOld = new TreeSet<>();
    private final TreeSet<Integer> bits = new TreeSet<>();
    private List<Integer> row = new ArrayList<>();
    private List<List<Piece>> levels = new ArrayList<>();
    private int e = 2;
    private int cost;

    private static boolean out(int x) {
        return x < 0 || x > 1000000;
    }

    private void setBits(int x) {
        bits.add(x % 61);
        bits.add((x / 61) % 64);
    }

    private void makeRow() {
        row = new ArrayList<>(now);
        cameNew.clear();
        wentOld.clear();
        bits.clear();
        row.forEach(this::setBits);
        cost += row.size();
        levels = new ArrayList<>();
        List<Integer> keys = row;
        while (!keys.isEmpty()) {
            List<Piece> level = fewest(keys, e);
            levels.add(level);
            keys = level.size() == 1 ? List.of() : level.stream().map(Piece::firstKey).toList();
        }
    }

    /** The piece from i to j, or null if no slope does. */
    static Piece straight(List<Integer> x, int i, int j, int e) {
        long num = 0;
        long den = 1;
        for (int k = i + 1; k <= j; k++) {
            long run = x.get(k) - x.get(i);
            if ((k - e - i) * den > num * run) {
                num = k - e - i;
                den = run;
            }
        }
        for (int k = i; k <= j; k++) {
            long run = x.get(k) - x.get(i);
            long told = i * den + num * run;
            if (told < (k - e) * den || told > (k + e) * den) {
                return null;
            }
        }
        long shared = BigInteger.valueOf(num).gcd(BigInteger.valueOf(den)).longValue();
        return new Piece(i, j, x.get(i), num / shared, den / shared);
    }

    /** The lists of pieces are compared whole: fewer first, then the one whose first is longer. */
    static List<Piece> fewest(List<Integer> x, int e) {
        int n = x.size();
        List<List<Piece>> best = new ArrayList<>();
        for (int i = 0; i <= n; i++) {
            best.add(new ArrayList<>());
        }
        for (int i = n - 1; i >= 0; i--) {
            List<Piece> found = null;
            for (int j = i; j < n; j++) {
                Piece head = straight(x, i, j, e);
                if (head == null) {
                    break;
                }
                List<Piece> way = new ArrayList<>();
                way.add(head);
                way.addAll(best.get(j + 1));
                if (found == null || isBetter(way, found)) {
                    found = way;
                }
            }
            best.set(i, found);
        }
        return best.get(0);
    }

    /** Every way to cut the ranks, for rows that are short. */
    static List<Piece> fewestOfAllWays(List<Integer> x, int e) {
        int n = x.size();
        List<Piece> found = null;
        for (int ends = 0; ends < 1 << (n - 1); ends++) {
            List<Piece> way = new ArrayList<>();
            boolean good = true;
            int i = 0;
            for (int j = 0; j < n && good; j++) {
                if (j == n - 1 || (ends >> j & 1) == 1) {
                    Piece piece = straight(x, i, j, e);
                    good = piece != null;
                    way.add(piece);
                    i = j + 1;
                }
            }
            if (good && (found == null || isBetter(way, found))) {
                found = way;
            }
        }
        return found;
    }

    private static boolean isBetter(List<Piece> way, List<Piece> other) {
        if (way.size() != other.size()) {
            return way.size() < other.size();
        }
        for (int k = 0; k < way.size(); k++) {
            if (way.get(k).j() != other.get(k).j()) {
                return way.get(k).j() > other.get(k).j();
            }
        }
        return false;
    }

    int put(int x) {
        if (out(x)) {
            return -2;
        }
        if (now.contains(x)) {
            return -3;
        }
        if (now.size() == 60) {
            return -4;
        }
        if (!wentOld.remove(x)) {
            if (cameNew.size() + wentOld.size() == 8) {
                makeRow();
            }
            cameNew.add(x);
        }
        now.add(x);
        setBits(x);
        return now.size();
    }

    int take(int x) {
        if (out(x)) {
            return -2;
        }
        if (!now.contains(x)) {
            return -3;
        }
        if (!cameNew.remove(x)) {
            if (cameNew.size() + wentOld.size() == 8) {
                makeRow();
            }
            wentOld.add(x);
        }
        now.remove(x);
        return now.size();
    }

    int make() {
        makeRow();
        return cost;
    }

    int slack(int wanted) {
        if (wanted < 0 || wanted > 8) {
            return -2;
        }
        int was = e;
        e = wanted;
        makeRow();
        return was;
    }

    int place(int x) {
        if (out(x)) {
            return -2;
        }
        return now.contains(x) ? now.headSet(x).size() : -1;
    }

    int at(int place) {
        return place < 0 || place >= now.size() ? -2 : new ArrayList<>(now).get(place);
    }

    int range(int a, int b) {
        return out(a) || out(b) || a > b ? -2 : now.subSet(a, true, b, true).size();
    }

    long sum(int a, int b) {
        if (out(a) || out(b) || a > b) {
            return -2;
        }
        return now.subSet(a, true, b, true).stream().mapToLong(x -> x).sum();
    }

    int pieces(int level) {
        if (level < 0 || level > 9) {
            return -2;
        }
        return level < levels.size() ? levels.get(level).size() : 0;
    }

    int piece(int level, int k, int what) {
        if (level < 0 || level >= levels.size() || k < 0 || k >= levels.get(level).size()) {
            return -2;
        }
        Piece p = levels.get(level).get(k);
        return switch (what) {
            case 0 -> p.i();
            case 1 -> p.j();
            case 2 -> p.firstKey();
            case 3 -> (int) p.num();
            case 4 -> (int) p.den();
            default -> -2;
        };
    }

    int levels() {
        return levels.size();
    }

    private Piece pieceFor(int x) {
        Piece found = levels.get(0).get(0);
        for (Piece p : levels.get(0)) {
            if (p.firstKey() <= x) {
                found = p;
            }
        }
        return found;
    }

    int guess(int x) {
        if (out(x)) {
            return -2;
        }
        if (row.isEmpty()) {
            return -1;
        }
        Piece p = pieceFor(x);
        long g = p.i() + Math.floorDiv(p.num() * (x - p.firstKey()), p.den());
        return (int) Math.max(p.i(), Math.min(p.j(), g));
    }

    /** The ranks that are looked at for x, in their order. */
    private List<Integer> looked(int x) {
        List<Integer> ranks = new ArrayList<>();
        if (row.isEmpty()) {
            return ranks;
        }
        Piece p = pieceFor(x);
        int g = guess(x);
        List<Integer> order = new ArrayList<>(List.of(g));
        for (int away = 1; away <= e; away++) {
            order.add(g - away);
            order.add(g + away);
        }
        for (int rank : order) {
            if (rank >= p.i() && rank <= p.j()) {
                ranks.add(rank);
                if (row.get(rank) == x) {
                    break;
                }
            }
        }
        return ranks;
    }

    int find(int x) {
        if (out(x)) {
            return -2;
        }
        List<Integer> ranks = looked(x);
        int last = ranks.isEmpty() ? -1 : ranks.get(ranks.size() - 1);
        return last >= 0 && row.get(last) == x ? last : -1;
    }

    int looks(int x) {
        return out(x) ? -2 : looked(x).size();
    }

    int maybe(int x) {
        if (out(x)) {
            return -2;
        }
        return bits.contains(x % 61) && bits.contains((x / 61) % 64) ? 1 : 0;
    }

    int wrong(int a, int b) {
        if (out(a) || out(b) || a > b || b - a > 2000) {
            return -2;
        }
        int found = 0;
        for (int x = a; x <= b; x++) {
            if (maybe(x) == 1 && !now.contains(x)) {
                found++;
            }
        }
        return found;
    }

    int poison(int a, int b, int what) {
        if (out(a) || out(b) || a > b || b - a > 40 || what < 0 || what > 1) {
            return -2;
        }
        if (now.size() == 60) {
            return -4;
        }
        int most = -1;
        int number = -1;
        for (int x = b; x >= a; x--) {
            if (!now.contains(x)) {
                TreeSet<Integer> then = new TreeSet<>(now);
                then.add(x);
                int many = fewest(new ArrayList<>(then), e).size();
                if (many >= most) {
                    most = many;
                    number = x;
                }
            }
        }
        return what == 0 ? number : most;
    }

    int count(int what) {
        return switch (what) {
            case 0 -> now.size();
            case 1 -> row.size();
            case 2 -> cameNew.size();
            case 3 -> wentOld.size();
            case 4 -> cost;
            case 5 -> bits.size();
            default -> -2;
        };
    }
}

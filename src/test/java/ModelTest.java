import java.util.ArrayList;
import java.util.List;
import java.util.Random;
import java.util.TreeSet;

/** Long runs of mixed calls, each answer compared with the model's (all promises). */
final class ModelTest {
    /** What an object answers after so many calls is free. */
    private static final int CALLS = 512;
    private static final int[] EDGES = {
        Integer.MIN_VALUE, -2, -1, 0, 1, 999999, 1000000, 1000001, Integer.MAX_VALUE
    };

    private final Due due;
    private final Random random;
    private final int shape;
    private final KeyGuess x = new KeyGuess();
    private final Model model = new Model();
    private final List<Integer> used = new ArrayList<>();
    private int calls;

    private ModelTest(Due due, int seed) {
        this.due = due;
        this.random = new Random(seed);
        this.shape = seed % 6;
    }

    public static void main(String[] args) {
        Due due = new Due();
        for (int seed = 0; seed < 1200; seed++) {
            new ModelTest(due, seed).run();
        }
        compareWithAllWays(due);
        due.end();
    }

    private void run() {
        int mostKeys = 5 + random.nextInt(60);
        while (calls < CALLS) {
            int kind = random.nextInt(100);
            if (kind < 30 && model.count(0) < mostKeys) {
                int key = number();
                used.add(key);
                is("put", x.put(key), model.put(key), key);
            } else if (kind < 40 || kind < 48 && model.count(0) >= mostKeys) {
                int key = number();
                is("take", x.take(key), model.take(key), key);
            } else if (kind < 95) {
                ask(random.nextInt(17));
            } else {
                change(random.nextInt(2));
            }
            if (calls < CALLS) {
                state(random.nextInt(9) - 1);
            }
        }
    }

    private void change(int kind) {
        if (kind == 0) {
            is("make", x.make(), model.make());
        } else {
            int e = random.nextInt(11) - 1;
            is("slack", x.slack(e), model.slack(e), e);
        }
    }

    private void ask(int kind) {
        int a = number();
        int b = random.nextInt(4) == 0 ? number() : a + random.nextInt(60) - 5;
        switch (kind) {
            case 0 -> is("place", x.place(a), model.place(a), a);
            case 1 -> is("at", x.at(a % 70), model.at(a % 70), a % 70);
            case 2 -> is("range", x.range(a, b), model.range(a, b), a, b);
            case 3 -> is("sum", x.sum(a, b), model.sum(a, b), a, b);
            case 4, 5, 6 -> onePiece();
            case 7, 8 -> is("guess", x.guess(a), model.guess(a), a);
            case 9, 10 -> is("find", x.find(a), model.find(a), a);
            case 11, 12 -> is("looks", x.looks(a), model.looks(a), a);
            case 13 -> is("maybe", x.maybe(a), model.maybe(a), a);
            case 14 -> {
                int far = a + random.nextInt(2010);
                is("wrong", x.wrong(a, far), model.wrong(a, far), a, far);
            }
            default -> {
                int what = random.nextInt(8) == 0 ? random.nextInt(5) - 2 : random.nextInt(2);
                int far = a + random.nextInt(43) - 1;
                is("poison", x.poison(a, far, what), model.poison(a, far, what), a, far, what);
            }
        }
    }

    private void onePiece() {
        int level = random.nextInt(13) == 0 ? number() : random.nextInt(8) - 1;
        int many = model.pieces(level);
        is("pieces", x.pieces(level), many, level);
        int k = random.nextInt(Math.max(many, 0) + 2) - 1;
        for (int what = -1; what <= 5 && calls < CALLS; what++) {
            is("piece", x.piece(level, k, what), model.piece(level, k, what), level, k, what);
        }
    }

    private void state(int what) {
        if (what == 7) {
            is("levels", x.levels(), model.levels());
        } else {
            is("count", x.count(what), model.count(what), what);
        }
    }

    private int number() {
        if (random.nextInt(40) == 0) {
            return EDGES[random.nextInt(EDGES.length)];
        }
        if (!used.isEmpty() && random.nextInt(3) == 0) {
            return used.get(random.nextInt(used.size()));
        }
        int k = random.nextInt(70);
        return switch (shape) {
            case 0 -> random.nextInt(90);
            case 1 -> k * k;
            case 2 -> random.nextInt(1000001);
            case 3 -> 1000 * random.nextInt(9) + random.nextInt(10);
            case 4 -> 10 * k + (random.nextInt(6) == 0 ? 3 : 0);
            default -> 1000000 - (1 << random.nextInt(20)) - random.nextInt(4);
        };
    }

    private void is(String name, long got, long want, int... args) {
        calls++;
        StringBuilder call = new StringBuilder("shape " + shape + ": " + name + "(");
        for (int k = 0; k < args.length; k++) {
            call.append(k == 0 ? "" : ", ").append(args[k]);
        }
        due.is(call.append(")").toString(), got, want);
    }

    /** The pieces of short rows are the best of all ways to cut them. */
    private static void compareWithAllWays(Due due) {
        Random random = new Random(7);
        for (int round = 0; round < 3000; round++) {
            int e = random.nextInt(4);
            int spread = 12 + random.nextInt(60);
            TreeSet<Integer> keys = new TreeSet<>();
            for (int k = 1 + random.nextInt(10); k > 0; k--) {
                keys.add(random.nextInt(spread));
            }
            KeyGuess x = new KeyGuess();
            keys.forEach(x::put);
            x.slack(e);
            List<Model.Piece> best = Model.fewestOfAllWays(new ArrayList<>(keys), e);
            due.is(keys + " pieces(0)", x.pieces(0), best.size());
            for (int k = 0; k < best.size(); k++) {
                due.is(keys + " piece j", x.piece(0, k, 1), best.get(k).j());
                due.is(keys + " piece num", x.piece(0, k, 3), best.get(k).num());
                due.is(keys + " piece den", x.piece(0, k, 4), best.get(k).den());
            }
        }
    }
}

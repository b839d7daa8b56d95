import java.util.Arrays;

/** Every call with every combination of boundary numbers, in several states, as the model answers. */
final class GridTest {
    private static final int[] NUMBERS = {
        Integer.MIN_VALUE, Integer.MIN_VALUE + 1, -1000000, -2, -1, 0, 1, 2, 4, 5, 6, 8, 9, 10, 11, 39, 40,
        41, 59, 60, 61, 1999, 2000, 2001, 3903, 3904, 997999, 998000, 999959, 999960, 999999, 1000000,
        1000001, Integer.MAX_VALUE - 1, Integer.MAX_VALUE
    };
    /** So that no object is asked more than 512 times after what it began with. */
    private static final int MOST_ASKED = 400;
    private static final Due DUE = new Due();

    /** What an object began with: a row made with slack e, what went since, and what came. */
    private record Past(String name, int e, int[] row, int[] went, int[] came) {
        KeyGuess object() {
            KeyGuess x = Given.made(e, row);
            for (int key : went) {
                x.take(key);
            }
            for (int key : came) {
                x.put(key);
            }
            return x;
        }

        Model model() {
            Model model = new Model();
            for (int key : row) {
                model.put(key);
            }
            model.slack(e);
            for (int key : went) {
                model.take(key);
            }
            for (int key : came) {
                model.put(key);
            }
            return model;
        }
    }

    private final Past past;
    private final Model model;
    private KeyGuess x;
    private int asked;

    private GridTest(Past past) {
        this.past = past;
        this.model = past.model();
        this.x = past.object();
    }

    public static void main(String[] args) {
        int[] none = {};
        int[] ends = {0, 1, 999999, 1000000};
        Past[] pasts = {
            new Past("no keys", 2, none, none, none),
            new Past("NEW alone", 2, none, none, ends),
            new Past("OLD alone", 0, ends, ends, none),
            new Past("both ends", 0, ends, new int[] {0, 1000000}, new int[] {10, 60}),
            new Past("8 ASIDE", 1, Given.line(12, 10), new int[] {0, 10, 20, 30}, new int[] {5, 15, 25, 35}),
            new Past("59 squares", 0, Given.squares(59), none, none),
            new Past("60 in line", 8, Given.line(60, 1), none, none),
            new Past("60, 8 ASIDE", 3, Given.line(52, 10), none, new int[] {1, 2, 3, 4, 5, 6, 7, 8})
        };
        for (Past past : pasts) {
            GridTest test = new GridTest(past);
            test.changes();
            for (int a : NUMBERS) {
                test.ofOne(a);
                for (int b : NUMBERS) {
                    test.ofTwo(a, b);
                    for (int c : NUMBERS) {
                        test.ofThree(a, b, c);
                    }
                }
            }
        }
        DUE.end();
    }

    private KeyGuess asked() {
        asked++;
        if (asked % MOST_ASKED == 0) {
            x = past.object();
        }
        return x;
    }

    private void ofOne(int a) {
        is("place", asked().place(a), model.place(a), a);
        is("at", asked().at(a), model.at(a), a);
        is("pieces", asked().pieces(a), model.pieces(a), a);
        is("guess", asked().guess(a), model.guess(a), a);
        is("find", asked().find(a), model.find(a), a);
        is("looks", asked().looks(a), model.looks(a), a);
        is("maybe", asked().maybe(a), model.maybe(a), a);
        is("count", asked().count(a), model.count(a), a);
    }

    private void ofTwo(int a, int b) {
        is("range", asked().range(a, b), model.range(a, b), a, b);
        is("sum", asked().sum(a, b), model.sum(a, b), a, b);
        is("wrong", asked().wrong(a, b), model.wrong(a, b), a, b);
    }

    private void ofThree(int a, int b, int c) {
        is("piece", asked().piece(a, b, c), model.piece(a, b, c), a, b, c);
        is("poison", asked().poison(a, b, c), model.poison(a, b, c), a, b, c);
    }

    /** Each of these on an object of its own. */
    private void changes() {
        for (int a : NUMBERS) {
            Model put = past.model();
            KeyGuess putTo = past.object();
            is("put", putTo.put(a), put.put(a), a);
            after("put", putTo, put, a);
            Model taken = past.model();
            KeyGuess takenFrom = past.object();
            is("take", takenFrom.take(a), taken.take(a), a);
            after("take", takenFrom, taken, a);
            Model loose = past.model();
            KeyGuess loosened = past.object();
            is("slack", loosened.slack(a), loose.slack(a), a);
            after("slack", loosened, loose, a);
        }
        Model made = past.model();
        KeyGuess madeAnew = past.object();
        is("make", madeAnew.make(), made.make());
        after("make", madeAnew, made);
    }

    private void after(String name, KeyGuess changed, Model due, int... args) {
        for (int what = 0; what <= 5; what++) {
            is("count(" + what + ") after " + name, changed.count(what), due.count(what), args);
        }
        is("levels() after " + name, changed.levels(), due.levels(), args);
        is("slack(4) after " + name, changed.slack(4), due.slack(4), args);
    }

    private void is(String name, long got, long want, int... args) {
        if (got == want) {
            DUE.is(name, got, want);
        } else {
            DUE.is(past.name() + ": " + name + Arrays.toString(args), got, want);
        }
    }
}

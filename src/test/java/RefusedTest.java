import java.util.List;
import java.util.function.Supplier;
import java.util.function.ToLongFunction;

/** What is refused: by the first that fits, and nothing changes. */
final class RefusedTest {
    private static final Due DUE = new Due();
    private static final int[] NO_LEVEL = {Integer.MIN_VALUE, -1, 10, Integer.MAX_VALUE};
    private static final int[] NO_SLACK = {Integer.MIN_VALUE, -1, 9, Integer.MAX_VALUE};
    private static final int[] NO_COUNT = {Integer.MIN_VALUE, -1, 6, Integer.MAX_VALUE};

    public static void main(String[] args) {
        badGoesFirst();
        notGoesBeforeFull();
        badOfSeveral();
        badChangesNothing();
        notChangesNothing();
        fullChangesNothing();
        askingChangesNothing();
        DUE.end();
    }

    /** No keys at all. */
    private static KeyGuess empty() {
        return new KeyGuess();
    }

    /** 0 .. 70 came; the next one is a ninth. */
    private static KeyGuess eightNew() {
        return Given.with(Given.line(8, 10));
    }

    private static KeyGuess fourNewFourOld() {
        return Given.fourNewFourOld(1);
    }

    /** 60 keys, 52 of them in the row. */
    private static KeyGuess full() {
        return Given.eightNewOver(52, 3);
    }

    /** The call on a new object with this past answers what is due and leaves it as it was. */
    private static void same(String call, Supplier<KeyGuess> past, ToLongFunction<KeyGuess> made, long due) {
        KeyGuess x = past.get();
        DUE.is(call, made.applyAsLong(x), due);
        List<Long> before = State.of(past.get());
        List<Long> after = State.of(x);
        DUE.holds(call + " changed nothing: " + before + " " + after, after.equals(before));
    }

    private static void badGoesFirst() {
        DUE.sentence("Refused .., the first that fits: BAD ahead of NOT and FULL");
        for (int out : Given.OUT) {
            DUE.is("put(" + out + ") with 60", full().put(out), KeyGuess.BAD);
            DUE.is("take(" + out + ") that is not there", empty().take(out), KeyGuess.BAD);
            DUE.is("poison(" + out + ", 0, 0) with 60", full().poison(out, 0, 0), KeyGuess.BAD);
            DUE.is("poison(0, " + out + ", 0) with 60", full().poison(0, out, 0), KeyGuess.BAD);
            DUE.is("poison(0, 0, " + out + ") with 60", full().poison(0, 0, out), KeyGuess.BAD);
        }
        DUE.is("poison(1, 0, 0) with 60", full().poison(1, 0, 0), KeyGuess.BAD);
        DUE.is("poison(0, 41, 0) with 60", full().poison(0, 41, 0), KeyGuess.BAD);
        DUE.is("poison(0, 40, 2) with 60", full().poison(0, 40, 2), KeyGuess.BAD);
    }

    private static void notGoesBeforeFull() {
        DUE.sentence("Refused .., the first that fits: NOT ahead of FULL");
        DUE.is("put(0) of the row, with 60", full().put(0), KeyGuess.NOT);
        DUE.is("put(1007) that is NEW, with 60", full().put(1007), KeyGuess.NOT);
        DUE.is("put(1008) that is not there", full().put(1008), KeyGuess.FULL);
    }

    private static void badOfSeveral() {
        DUE.sentence("BAD (a number out of its bounds, no such PIECE, level), several at once");
        KeyGuess x = fourNewFourOld();
        DUE.is("range(1000001, -1)", x.range(1000001, -1), KeyGuess.BAD);
        DUE.is("sum(1000001, -1)", x.sum(1000001, -1), KeyGuess.BAD);
        DUE.is("piece(10, -1, 5)", x.piece(10, -1, 5), KeyGuess.BAD);
        DUE.is("piece(-1, 60, -1)", x.piece(-1, 60, -1), KeyGuess.BAD);
        DUE.is("wrong(1000001, -1)", x.wrong(1000001, -1), KeyGuess.BAD);
        DUE.is("poison(1000001, -1, 2)", x.poison(1000001, -1, 2), KeyGuess.BAD);
    }

    private static void badChangesNothing() {
        DUE.sentence("Refused, and nothing changes: BAD");
        badChangesNothing("empty", RefusedTest::empty);
        badChangesNothing("8 NEW", RefusedTest::eightNew);
        badChangesNothing("4 NEW, 4 OLD", RefusedTest::fourNewFourOld);
        badChangesNothing("60 keys", RefusedTest::full);
    }

    private static void badChangesNothing(String when, Supplier<KeyGuess> past) {
        for (int out : Given.OUT) {
            String of = "(" + out + "), " + when;
            same("put" + of, past, x -> x.put(out), KeyGuess.BAD);
            same("take" + of, past, x -> x.take(out), KeyGuess.BAD);
            same("place" + of, past, x -> x.place(out), KeyGuess.BAD);
            same("at" + of, past, x -> x.at(out), KeyGuess.BAD);
            same("range" + of, past, x -> x.range(out, out), KeyGuess.BAD);
            same("sum" + of, past, x -> x.sum(out, out), KeyGuess.BAD);
            same("guess" + of, past, x -> x.guess(out), KeyGuess.BAD);
            same("find" + of, past, x -> x.find(out), KeyGuess.BAD);
            same("looks" + of, past, x -> x.looks(out), KeyGuess.BAD);
            same("maybe" + of, past, x -> x.maybe(out), KeyGuess.BAD);
            same("wrong" + of, past, x -> x.wrong(out, out), KeyGuess.BAD);
            same("poison" + of, past, x -> x.poison(out, out, 0), KeyGuess.BAD);
        }
        for (int bad : NO_SLACK) {
            same("slack(" + bad + "), " + when, past, x -> x.slack(bad), KeyGuess.BAD);
        }
        for (int bad : NO_LEVEL) {
            same("pieces(" + bad + "), " + when, past, x -> x.pieces(bad), KeyGuess.BAD);
            same("piece(" + bad + ", 0, 0), " + when, past, x -> x.piece(bad, 0, 0), KeyGuess.BAD);
        }
        for (int bad : NO_COUNT) {
            same("count(" + bad + "), " + when, past, x -> x.count(bad), KeyGuess.BAD);
        }
        same("at(60), " + when, past, x -> x.at(60), KeyGuess.BAD);
        same("range(1, 0), " + when, past, x -> x.range(1, 0), KeyGuess.BAD);
        same("sum(1, 0), " + when, past, x -> x.sum(1, 0), KeyGuess.BAD);
        same("piece(0, 60, 0), " + when, past, x -> x.piece(0, 60, 0), KeyGuess.BAD);
        same("piece(0, 0, 5), " + when, past, x -> x.piece(0, 0, 5), KeyGuess.BAD);
        same("wrong(1, 0), " + when, past, x -> x.wrong(1, 0), KeyGuess.BAD);
        same("wrong(0, 2001), " + when, past, x -> x.wrong(0, 2001), KeyGuess.BAD);
        same("poison(1, 0, 0), " + when, past, x -> x.poison(1, 0, 0), KeyGuess.BAD);
        same("poison(0, 41, 0), " + when, past, x -> x.poison(0, 41, 0), KeyGuess.BAD);
        same("poison(0, 40, 2), " + when, past, x -> x.poison(0, 40, 2), KeyGuess.BAD);
    }

    private static void notChangesNothing() {
        DUE.sentence("Refused, and nothing changes: NOT (it is there; it is not)");
        same("take(0) of none", RefusedTest::empty, x -> x.take(0), KeyGuess.NOT);
        same("put(70) as a ninth", RefusedTest::eightNew, x -> x.put(70), KeyGuess.NOT);
        same("take(71) as a ninth", RefusedTest::eightNew, x -> x.take(71), KeyGuess.NOT);
        same("put(40) of the row", RefusedTest::fourNewFourOld, x -> x.put(40), KeyGuess.NOT);
        same("put(5) that is NEW", RefusedTest::fourNewFourOld, x -> x.put(5), KeyGuess.NOT);
        same("take(0) that is OLD", RefusedTest::fourNewFourOld, x -> x.take(0), KeyGuess.NOT);
        same("take(41) that never was", RefusedTest::fourNewFourOld, x -> x.take(41), KeyGuess.NOT);
        same("put(510) with 60", RefusedTest::full, x -> x.put(510), KeyGuess.NOT);
        same("take(511) with 60", RefusedTest::full, x -> x.take(511), KeyGuess.NOT);
    }

    private static void fullChangesNothing() {
        DUE.sentence("Refused, and nothing changes: FULL");
        same("put(511) as a ninth", RefusedTest::full, x -> x.put(511), KeyGuess.FULL);
        same("poison(1, 9, 0)", RefusedTest::full, x -> x.poison(1, 9, 0), KeyGuess.FULL);
        same("poison(1, 9, 1)", RefusedTest::full, x -> x.poison(1, 9, 1), KeyGuess.FULL);
    }

    private static void askingChangesNothing() {
        DUE.sentence("Nothing is promised beyond the .. state changes described: asking is none");
        Supplier<KeyGuess> past = RefusedTest::fourNewFourOld;
        same("place(0) that is OLD", past, x -> x.place(0), KeyGuess.NONE);
        same("find(5) that is NEW", past, x -> x.find(5), KeyGuess.NONE);
        same("find(0) that is OLD", past, x -> x.find(0), 0);
        same("sum(0, 30)", past, x -> x.sum(0, 30), 5 + 15 + 25);
        same("maybe(1000000)", past, x -> x.maybe(1000000), 0);
        same("poison(5, 5, 0)", past, x -> x.poison(5, 5, 0), KeyGuess.NONE);
        same("poison(0, 4, 0)", past, x -> x.poison(0, 4, 1), 1);
    }
}

/** Promises 1 to 9, in ordinary use. */
final class KeysTest {
    private static final Due DUE = new Due();

    public static void main(String[] args) {
        put();
        putAside();
        take();
        takeAside();
        make();
        slack();
        place();
        at();
        range();
        sum();
        DUE.end();
    }

    private static void put() {
        KeyGuess x = new KeyGuess();
        DUE.is("put(1000000)", x.put(1000000), 1);
        DUE.is("put(0)", x.put(0), 2);
        DUE.is("put(7)", x.put(7), 3);
        DUE.is("put(7) again", x.put(7), KeyGuess.NOT);
        DUE.counts("after puts", x, 3, 0, 3, 0);
        DUE.is("put: at(0)", x.at(0), 0);
        DUE.is("put: at(1)", x.at(1), 7);
        DUE.is("put: at(2)", x.at(2), 1000000);
    }

    private static void putAside() {
        KeyGuess x = Given.with(Given.line(8, 10));
        DUE.counts("8 NEW", x, 8, 0, 8, 0);
        DUE.is("8 NEW cost", x.count(4), 0);
        x.put(80);
        DUE.counts("the ninth", x, 9, 8, 1, 0);
        DUE.is("the ninth cost", x.count(4), 8);
        DUE.is("the ninth is not in the row", x.find(80), KeyGuess.NONE);
        DUE.is("the eighth is", x.find(70), 7);
        for (int k = 0; k < 7; k++) {
            x.take(10 * k);
        }
        DUE.counts("1 NEW, 7 OLD", x, 2, 8, 1, 7);
        x.put(30);
        DUE.counts("an OLD one comes again", x, 3, 8, 1, 6);
        x.put(35);
        DUE.counts("8 aside", x, 4, 8, 2, 6);
        x.put(40);
        DUE.counts("an OLD one comes again past 8", x, 5, 8, 2, 5);
        DUE.is("no row was made", x.count(4), 8);
        x.put(45);
        x.put(46);
        DUE.counts("a NEW one past 8", x, 7, 6, 1, 0);
        DUE.is("a row was made", x.count(4), 14);
        DUE.is("of those there then", x.find(45), 3);
    }

    private static void take() {
        KeyGuess x = Given.with(0, 5, 1000000);
        DUE.is("take(6)", x.take(6), KeyGuess.NOT);
        DUE.counts("after refused takes", x, 3, 0, 3, 0);
        DUE.is("take(5)", x.take(5), 2);
        DUE.counts("a NEW one went", x, 2, 0, 2, 0);
        DUE.is("take(5) again", x.take(5), KeyGuess.NOT);
        DUE.is("take(1000000)", x.take(1000000), 1);
        DUE.is("take(0)", x.take(0), 0);
        DUE.is("take of nothing", x.take(0), KeyGuess.NOT);
        DUE.is("place(5)", x.place(5), KeyGuess.NONE);
    }

    private static void takeAside() {
        KeyGuess x = Given.with(Given.line(12, 10));
        x.make();
        for (int k = 0; k < 4; k++) {
            x.take(10 * k);
            x.put(10 * k + 5);
        }
        int cost = x.count(4);
        DUE.counts("4 NEW, 4 OLD", x, 12, 12, 4, 4);
        x.take(5);
        DUE.counts("a NEW one goes past 8", x, 11, 12, 3, 4);
        x.put(6);
        DUE.is("no row was made", x.count(4), cost);
        DUE.is("the ninth goes", x.take(110), 11);
        DUE.counts("the ninth is aside alone", x, 11, 12, 0, 1);
        DUE.is("a row was made with it", x.count(4), cost + 12);
        DUE.is("it is in the row", x.find(110), 11);
        DUE.is("it is not there", x.place(110), KeyGuess.NONE);
        DUE.is("its bits are set", x.maybe(110), 1);
    }

    private static void make() {
        KeyGuess x = Given.with(3, 1, 2);
        DUE.is("make()", x.make(), 3);
        DUE.counts("made", x, 3, 3, 0, 0);
        DUE.is("make() again", x.make(), 6);
        x.take(1);
        x.put(9);
        x.put(10);
        DUE.counts("1 OLD, 2 NEW", x, 4, 3, 2, 1);
        DUE.is("make() of four", x.make(), 10);
        DUE.counts("made of four", x, 4, 4, 0, 0);
        DUE.is("rank of 9", x.find(9), 2);
        x.take(2);
        x.take(3);
        x.take(9);
        x.take(10);
        DUE.is("make() of none", x.make(), 10);
        DUE.counts("made of none", x, 0, 0, 0, 0);
        DUE.is("no levels", x.levels(), 0);
    }

    private static void slack() {
        KeyGuess x = Given.with(1, 2);
        DUE.is("slack(0)", x.slack(0), 2);
        DUE.counts("slack makes the row", x, 2, 2, 0, 0);
        DUE.is("slack(0) cost", x.count(4), 2);
        DUE.is("slack(8)", x.slack(8), 0);
        DUE.is("slack(8) again", x.slack(8), 8);
        DUE.is("slack(3)", x.slack(3), 8);
        DUE.is("four times made", x.count(4), 8);
        DUE.is("slack(1)", x.slack(1), 3);
    }

    private static void place() {
        KeyGuess x = Given.with(40, 10, 30, 20);
        DUE.is("place(10)", x.place(10), 0);
        DUE.is("place(40)", x.place(40), 3);
        DUE.is("place(15)", x.place(15), KeyGuess.NONE);
        x.make();
        x.take(10);
        x.put(25);
        DUE.is("place of an OLD one", x.place(10), KeyGuess.NONE);
        DUE.is("place(20)", x.place(20), 0);
        DUE.is("place of a NEW one", x.place(25), 1);
        DUE.is("place(30)", x.place(30), 2);
        x.put(0);
        x.put(1000000);
        DUE.is("place(0)", x.place(0), 0);
        DUE.is("place(1000000)", x.place(1000000), 5);
    }

    private static void at() {
        KeyGuess x = Given.made(2, 40, 10, 30);
        x.take(10);
        x.put(35);
        DUE.is("at(0)", x.at(0), 30);
        DUE.is("at(1)", x.at(1), 35);
        DUE.is("at(2)", x.at(2), 40);
    }

    private static void range() {
        KeyGuess x = Given.with(0, 10, 20, 30, 1000000);
        x.make();
        x.take(10);
        x.put(25);
        DUE.is("range(0, 1000000)", x.range(0, 1000000), 5);
        DUE.is("range(20, 30)", x.range(20, 30), 3);
        DUE.is("range(21, 29)", x.range(21, 29), 1);
        DUE.is("range(25, 25)", x.range(25, 25), 1);
        DUE.is("range(10, 10)", x.range(10, 10), 0);
        DUE.is("range(1000000, 1000000)", x.range(1000000, 1000000), 1);
        DUE.is("range(30, 29)", x.range(30, 29), KeyGuess.BAD);
    }

    private static void sum() {
        KeyGuess x = Given.with(0, 10, 20, 30, 999999, 1000000);
        x.make();
        x.take(10);
        x.put(25);
        DUE.is("sum(0, 1000000)", x.sum(0, 1000000), 2000074L);
        DUE.is("sum(20, 30)", x.sum(20, 30), 75L);
        DUE.is("sum(21, 29)", x.sum(21, 29), 25L);
        DUE.is("sum(1, 19)", x.sum(1, 19), 0L);
        DUE.is("sum(1000000, 1000000)", x.sum(1000000, 1000000), 1000000L);
        DUE.is("sum(30, 29)", x.sum(30, 29), -2L);
    }
}

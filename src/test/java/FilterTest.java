/** Promises 16 to 19, in ordinary use. */
final class FilterTest {
    private static final Due DUE = new Due();

    public static void main(String[] args) {
        maybe();
        filterSinceMade();
        wrong();
        poison();
        poisonSlack();
        poisonChangesNothing();
        DUE.end();
    }

    private static void maybe() {
        KeyGuess x = Given.made(2, 0);
        DUE.is("one bit for both", x.count(5), 1);
        DUE.is("maybe(0)", x.maybe(0), 1);
        DUE.is("maybe(1)", x.maybe(1), 0);
        DUE.is("maybe(61): bits 0, 1", x.maybe(61), 0);
        DUE.is("maybe(3904): 61 * 64", x.maybe(3904), 1);
        x.put(1);
        DUE.is("maybe(61) with 1", x.maybe(61), 1);
        DUE.is("maybe(62): bits 1, 1", x.maybe(62), 1);
        DUE.is("maybe(63): bits 2, 1", x.maybe(63), 0);

        KeyGuess y = Given.made(2, 3843);
        DUE.is("bits 0, 63", y.count(5), 2);
        DUE.is("maybe(3843)", y.maybe(3843), 1);
        DUE.is("maybe(0) by bit 0", y.maybe(0), 1);
        DUE.is("maybe(3844): bits 1, 63", y.maybe(3844), 0);

        // 1000000 = 61 * 16393 + 27, and 16393 = 64 * 256 + 9.
        KeyGuess z = Given.made(2, 1000000);
        DUE.is("maybe(1000000)", z.maybe(1000000), 1);
        DUE.is("maybe(576): 61 * 9 + 27", z.maybe(576), 1);
        DUE.is("maybe(575)", z.maybe(575), 0);
        DUE.is("maybe(1674): 61 * 27 + 27", z.maybe(1674), 1);
        DUE.is("maybe(558): 61 * 9 + 9", z.maybe(558), 1);
        DUE.is("maybe(32): bits 32, 0", z.maybe(32), 0);
    }

    private static void filterSinceMade() {
        KeyGuess x = Given.made(2, 100);
        x.put(200);
        DUE.is("NEW: maybe(200)", x.maybe(200), 1);
        x.take(200);
        x.take(100);
        DUE.is("NEW and went: maybe(200)", x.maybe(200), 1);
        DUE.is("OLD: maybe(100)", x.maybe(100), 1);
        // 100 sets 39 and 1, 200 sets 17 and 3.
        DUE.is("bits", x.count(5), 4);
        x.make();
        DUE.is("made: maybe(200)", x.maybe(200), 0);
        DUE.is("made: maybe(100)", x.maybe(100), 0);
        DUE.is("made: bits", x.count(5), 0);
        x.put(-1);
        DUE.is("refused: bits", x.count(5), 0);
    }

    private static void wrong() {
        KeyGuess x = Given.made(2, 0);
        DUE.is("wrong(0, 2000)", x.wrong(0, 2000), 0);
        DUE.is("wrong(0, 2001)", x.wrong(0, 2001), KeyGuess.BAD);
        DUE.is("wrong(1904, 3904)", x.wrong(1904, 3904), 1);
        DUE.is("wrong(3904, 3904)", x.wrong(3904, 3904), 1);
        DUE.is("wrong(3903, 3903)", x.wrong(3903, 3903), 0);
        x.put(1);
        DUE.is("61 and 62", x.wrong(0, 100), 2);
        x.put(61);
        DUE.is("62 alone", x.wrong(0, 100), 1);
        x.take(0);
        DUE.is("62 and 0", x.wrong(0, 100), 2);
        DUE.is("0", x.wrong(0, 61), 1);
        DUE.is("1 is a key", x.wrong(1, 1), 0);
        DUE.is("wrong(5, 4)", x.wrong(5, 4), KeyGuess.BAD);
        DUE.is("wrong(998000, 1000000)", Given.made(2).wrong(998000, 1000000), 0);
        DUE.is("wrong(0, 1000000)", x.wrong(0, 1000000), KeyGuess.BAD);
    }

    private static void poison() {
        KeyGuess x = Given.made(0, 0, 10, 20);
        DUE.is("the least of several", x.poison(0, 40, 0), 1);
        DUE.is("its pieces", x.poison(0, 40, 1), 2);
        DUE.is("in line", x.poison(30, 30, 1), 1);
        DUE.is("in line: the number", x.poison(30, 30, 0), 30);
        DUE.is("the next is worse", x.poison(30, 32, 0), 31);
        DUE.is("a key is passed over", x.poison(20, 21, 0), 21);
        DUE.is("all are keys", x.poison(10, 10, 0), KeyGuess.NONE);
        DUE.is("all are keys: pieces", x.poison(10, 10, 1), KeyGuess.NONE);
        // 10 leaves 0 10 20, 40 50 60; 11 leaves 0 11, 20 40, 50 60.
        KeyGuess y = Given.made(0, 0, 20, 40, 50, 60);
        DUE.is("three", y.poison(10, 50, 1), 3);
        DUE.is("three by 11", y.poison(10, 50, 0), 11);
        KeyGuess none = new KeyGuess();
        DUE.is("without keys", none.poison(1000000, 1000000, 0), 1000000);
        DUE.is("without keys: pieces", none.poison(999960, 1000000, 1), 1);
        // Keys there now count, not those of the row: 20 went, 11 came.
        x.take(20);
        x.put(11);
        DUE.is("now 0, 10, 11", x.poison(12, 12, 1), 2);
        DUE.is("an OLD one may come", x.poison(20, 20, 0), 20);
        x.take(11);
        DUE.is("now 0, 10: in line", x.poison(20, 20, 1), 1);
    }

    private static void poisonSlack() {
        int[] keys = {0, 1, 2, 8};
        DUE.is("slack 0", Given.made(0, keys).poison(20, 20, 1), 2);
        DUE.is("slack 1: 0 1 2 8, 20", Given.made(1, keys).poison(20, 20, 1), 2);
        DUE.is("slack 8", Given.made(8, keys).poison(20, 20, 1), 1);
        // The slope is 1/2 or more by 2, at most 5/10 by 10 and 5/11 by 11.
        DUE.is("slack 1: 10", Given.made(1, keys).poison(9, 10, 1), 1);
        DUE.is("slack 1: 11", Given.made(1, keys).poison(9, 13, 0), 11);
    }

    private static void poisonChangesNothing() {
        KeyGuess x = Given.made(0, 0, 10, 20);
        x.put(33);
        x.poison(21, 61, 0);
        DUE.counts("after poison", x, 4, 3, 1, 0);
        DUE.is("pieces(0) after poison", x.pieces(0), 1);
        DUE.is("piece(0, 0, 4) after poison", x.piece(0, 0, 4), 10);
        DUE.is("place(33) after poison", x.place(33), 3);
        DUE.is("range after poison", x.range(0, 1000000), 4);
        DUE.is("find(10) after poison", x.find(10), 1);
        DUE.is("maybe(21) after poison", x.maybe(21), 0);
    }
}

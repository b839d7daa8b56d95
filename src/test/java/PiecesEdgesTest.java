/** Every sentence on pieces that names a boundary case, each with a test of its own. */
final class PiecesEdgesTest {
    private static final Due DUE = new Due();

    public static void main(String[] args) {
        terms();
        guesses();
        promises();
        DUE.end();
    }

    private static void terms() {
        slopeIsNotNegative();
        notLess();
        notMore();
        greatestSlack();
        allRanks();
        firstLongest();
        secondLongest();
        oneRankAlone();
        lowestTerms();
        nextLevel();
        sameSlack();
        lastLevel();
        noLevels();
    }

    private static void guesses() {
        lastPieceNotAbove();
        belowTheFirstKey();
        cutTowardsTheLesser();
        notBelowNotAbove();
        withoutKeys();
        lookedNearGuess();
        lookedUpToSlack();
        lookedInThatPieceAlone();
        lookedUntilMet();
    }

    private static void promises() {
        pieces();
        pieceOfLevel();
        pieceBad();
        levels();
        guess();
        find();
        looks();
    }

    // ---- Terms

    private static void slopeIsNotNegative() {
        DUE.sentence("a slope m (any fraction, 0 or more)");
        DUE.piece("ranks below the slack", Given.made(8, 0, 1, 2), 0, 0, 0, 2, 0, 0, 1);
    }

    /** Rank 1 at 100 allows 2/100 at most; rank 4 at 150 needs 3/150, at 149 a little more. */
    private static void notLess() {
        DUE.sentence("is not less than k - e");
        KeyGuess on = Given.made(1, 0, 100, 101, 102, 150);
        DUE.is("on the bound", on.pieces(0), 1);
        DUE.piece("on the bound", on, 0, 0, 0, 4, 0, 1, 50);
        DUE.is("beyond it", Given.made(1, 0, 100, 101, 102, 149).pieces(0), 2);
    }

    /** Rank 2 at 2 needs 1/2 at least; rank 3 at 8 allows 4/8, at 9 a little less. */
    private static void notMore() {
        DUE.sentence("and not more than k + e");
        KeyGuess on = Given.made(1, 0, 1, 2, 8);
        DUE.is("on the bound", on.pieces(0), 1);
        DUE.piece("on the bound", on, 0, 0, 0, 3, 0, 1, 2);
        DUE.is("beyond it", Given.made(1, 0, 1, 2, 9).pieces(0), 2);
    }

    private static void greatestSlack() {
        DUE.sentence("not less than k - e, e being 8");
        DUE.piece("rank 8 needs no slope", Given.made(8, Given.line(9, 1)), 0, 0, 0, 8, 0, 0, 1);
        DUE.piece("rank 9 does", Given.made(8, Given.line(10, 1)), 0, 0, 0, 9, 0, 1, 9);
    }

    private static void allRanks() {
        DUE.sentence("the fewest that have all ranks, one behind the other");
        KeyGuess x = Given.made(0, Given.squares(60));
        int next = 0;
        for (int k = 0; k < x.pieces(0); k++) {
            DUE.is("i of piece " + k, x.piece(0, k, 0), next);
            next = x.piece(0, k, 1) + 1;
        }
        DUE.is("the last rank", next, 60);
        KeyGuess line = Given.made(0, Given.line(60, 10));
        DUE.is("60 in line", line.pieces(0), 1);
        DUE.piece("60 in line", line, 0, 0, 0, 59, 0, 1, 10);
    }

    private static void firstLongest() {
        DUE.sentence("of several ways to have as few that whose first PIECE is longest");
        KeyGuess x = Given.made(0, 0, 1, 4);
        DUE.is("pieces(0)", x.pieces(0), 2);
        DUE.piece("two ranks, then one", x, 0, 0, 0, 1, 0, 1, 1);
        DUE.piece("two ranks, then one", x, 0, 1, 2, 2, 4, 0, 1);
    }

    private static void secondLongest() {
        DUE.sentence("then the second, and so on");
        KeyGuess x = Given.made(0, Given.squares(7));
        DUE.is("pieces(0)", x.pieces(0), 4);
        DUE.piece("the second", x, 0, 1, 2, 3, 4, 1, 5);
        DUE.piece("the third", x, 0, 2, 4, 5, 16, 1, 9);
        DUE.piece("the fourth", x, 0, 3, 6, 6, 36, 0, 1);
    }

    private static void oneRankAlone() {
        DUE.sentence("(of one rank alone 0)");
        DUE.piece("one key", Given.made(0, 7), 0, 0, 0, 0, 7, 0, 1);
        DUE.piece("one key, slack 8", Given.made(8, 7), 0, 0, 0, 0, 7, 0, 1);
        DUE.piece("behind two", Given.made(0, 0, 1, 4), 0, 1, 2, 2, 4, 0, 1);
    }

    private static void lowestTerms() {
        DUE.sentence("as a fraction in lowest terms");
        // 1/10, 2/20, 3/30 are the same; with slack 1 the bounds are 0, 1/20, 2/30.
        DUE.piece("slack 0", Given.made(0, Given.line(4, 10)), 0, 0, 0, 3, 0, 1, 10);
        DUE.piece("slack 1", Given.made(1, Given.line(4, 10)), 0, 0, 0, 3, 0, 1, 15);
        // 51/590 has no common divisor; 56/580 has 4.
        DUE.piece("slack 8", Given.made(8, Given.line(60, 10)), 0, 0, 0, 59, 0, 51, 590);
        DUE.piece("slack 2", Given.made(2, Given.line(59, 10)), 0, 0, 0, 58, 0, 14, 145);
        DUE.piece("the least", Given.made(0, 0, 1000000), 0, 0, 0, 1, 0, 1, 1000000);
        DUE.piece("the greatest", Given.made(0, 0, 1), 0, 0, 0, 1, 0, 1, 1);
        DUE.piece("none", Given.made(1, 0, 10), 0, 0, 0, 1, 0, 0, 1);
    }

    private static void nextLevel() {
        DUE.sentence("If there is more than one on a level, the next one is made likewise");
        KeyGuess one = Given.made(0, 0, 1);
        DUE.is("of one piece: pieces(1)", one.pieces(1), 0);
        KeyGuess two = Given.made(0, 0, 1, 4);
        DUE.is("of two pieces: pieces(1)", two.pieces(1), 1);
        DUE.piece("of first keys 0, 4", two, 1, 0, 0, 1, 0, 1, 4);
    }

    /** First keys 0, 10000, 1000000 are not in line: with slack 0 they would be two pieces. */
    private static void sameSlack() {
        DUE.sentence("(with the same SLACK)");
        KeyGuess x = Given.made(1, 0, 1, 2, 10000, 10001, 10002, 1000000);
        DUE.is("pieces(0)", x.pieces(0), 3);
        DUE.is("pieces(1)", x.pieces(1), 1);
        DUE.piece("slack 1", x, 1, 0, 0, 2, 0, 1, 1000000);
    }

    private static void lastLevel() {
        DUE.sentence("the last level has one PIECE");
        KeyGuess x = Given.made(0, Given.squares(60));
        int[] due = {30, 15, 8, 4, 2, 1, 0};
        for (int level = 0; level < due.length; level++) {
            DUE.is("pieces(" + level + ")", x.pieces(level), due[level]);
        }
        DUE.is("levels()", x.levels(), 6);
        DUE.piece("the last", x, 5, 0, 0, 1, 0, 1, 32 * 32);
    }

    private static void noLevels() {
        DUE.sentence("Without KEYS there are no levels");
        KeyGuess x = Given.with(5);
        DUE.is("not in the row yet: levels()", x.levels(), 0);
        DUE.is("not in the row yet: pieces(0)", x.pieces(0), 0);
        x.make();
        DUE.is("in the row: levels()", x.levels(), 1);
        x.take(5);
        DUE.is("in the row still: levels()", x.levels(), 1);
        x.make();
        DUE.is("not in the row: levels()", x.levels(), 0);
        DUE.is("not in the row: pieces(0)", x.pieces(0), 0);
    }

    // ---- GUESS, LOOKED; two pieces: 10, 20, 30, 40 with 1/10 and 55, 70, 85 with 1/15

    private static KeyGuess twoPieces() {
        return Given.made(0, 10, 20, 30, 40, 55, 70, 85);
    }

    private static void lastPieceNotAbove() {
        DUE.sentence("by the last PIECE whose first KEY is not above x");
        KeyGuess x = twoPieces();
        DUE.is("guess(54)", x.guess(54), 3);
        DUE.is("guess(55)", x.guess(55), 4);
        DUE.is("guess(69)", x.guess(69), 4);
        DUE.is("guess(70)", x.guess(70), 5);
    }

    private static void belowTheFirstKey() {
        DUE.sentence("(without one: the first)");
        KeyGuess x = twoPieces();
        DUE.is("guess(0)", x.guess(0), 0);
        DUE.is("guess(9)", x.guess(9), 0);
        DUE.is("looks(9)", x.looks(9), 1);
        DUE.is("find(9)", x.find(9), KeyGuess.NONE);
        KeyGuess far = Given.made(0, 999999, 1000000);
        DUE.is("guess(0), far below", far.guess(0), 0);
    }

    private static void cutTowardsTheLesser() {
        DUE.sentence("i + SLOPE (x - x(i)), cut towards the lesser");
        KeyGuess x = twoPieces();
        DUE.is("guess(10)", x.guess(10), 0);
        DUE.is("guess(19)", x.guess(19), 0);
        DUE.is("guess(20)", x.guess(20), 1);
        DUE.is("guess(29)", x.guess(29), 1);
        KeyGuess far = Given.made(0, 0, 1000000);
        DUE.is("guess(999999)", far.guess(999999), 0);
        DUE.is("guess(1000000)", far.guess(1000000), 1);
    }

    private static void notBelowNotAbove() {
        DUE.sentence("but not below i, not above j");
        KeyGuess x = twoPieces();
        DUE.is("guess(0), by the slope -1", x.guess(0), 0);
        DUE.is("guess(49), by the slope 3", x.guess(49), 3);
        DUE.is("guess(50), by the slope 4", x.guess(50), 3);
        DUE.is("guess(99), by the slope 6", x.guess(99), 6);
        DUE.is("guess(100), by the slope 7", x.guess(100), 6);
        DUE.is("guess(1000000)", x.guess(1000000), 6);
        KeyGuess steep = Given.made(0, Given.line(60, 1));
        DUE.is("guess(1000000), 60 in line", steep.guess(1000000), 59);
    }

    private static void withoutKeys() {
        DUE.sentence("without KEYS none");
        KeyGuess x = new KeyGuess();
        DUE.is("guess(0)", x.guess(0), KeyGuess.NONE);
        DUE.is("guess(1000000)", x.guess(1000000), KeyGuess.NONE);
        DUE.is("find(0)", x.find(0), KeyGuess.NONE);
        DUE.is("looks(0)", x.looks(0), 0);
    }

    /** Slope 1/2: the guess of 8, rank 3, is 4; that of 2, rank 2, is 1. */
    private static void lookedNearGuess() {
        DUE.sentence("at the GUESS g, then g - 1, g + 1, g - 2, g + 2, ..");
        KeyGuess x = Given.made(1, 0, 1, 2, 8, 9);
        DUE.is("looks(9): 4", x.looks(9), 1);
        DUE.is("looks(8): 4 3", x.looks(8), 2);
        DUE.is("looks(2): 1 0 2", x.looks(2), 3);
        // 0, 10, .. 90 with slack 2 have slope 7/90: the guess of 50 is 3, that of 90 is 7.
        KeyGuess y = Given.made(2, Given.line(10, 10));
        DUE.is("looks(50): 3 2 4 1 5", y.looks(50), 5);
        DUE.is("find(50)", y.find(50), 5);
        DUE.is("looks(90): 7 6 8 5 9", y.looks(90), 5);
        DUE.is("find(90)", y.find(90), 9);
    }

    private static void lookedUpToSlack() {
        DUE.sentence("up to e away");
        KeyGuess none = Given.made(0, Given.line(60, 10));
        DUE.is("slack 0: looks(295)", none.looks(295), 1);
        DUE.is("slack 0: looks(290)", none.looks(290), 1);
        // The slope is 51/590: the guess of 295 has 8 ranks on both sides, that of 590 is 8 off.
        KeyGuess most = Given.made(8, Given.line(60, 10));
        DUE.is("slack 8: guess(295)", most.guess(295), 25);
        DUE.is("slack 8: looks(295)", most.looks(295), 17);
        DUE.is("slack 8: find(295)", most.find(295), KeyGuess.NONE);
        DUE.is("slack 8: guess(590)", most.guess(590), 51);
        DUE.is("slack 8: looks(590), 8 away", most.looks(590), 17);
        DUE.is("slack 8: find(590), 8 away", most.find(590), 59);
    }

    private static void lookedInThatPieceAlone() {
        DUE.sentence("ranks i .. j of that PIECE alone");
        // Two pieces: ranks 0 to 1, and 2 to 6 by 1/6 from 5 on.
        KeyGuess x = Given.made(1, 3, 4, 5, 12, 15, 17, 34);
        DUE.is("looks(0): 0 1", x.looks(0), 2);
        DUE.is("looks(6): 2 3", x.looks(6), 2);
        DUE.is("looks(1000000): 6 5", x.looks(1000000), 2);
        DUE.is("one rank: looks(6)", Given.made(8, 7).looks(6), 1);
        DUE.is("one rank: looks(8)", Given.made(8, 7).looks(8), 1);
    }

    private static void lookedUntilMet() {
        DUE.sentence("until it is met");
        KeyGuess x = Given.made(8, Given.line(9, 10));
        // Slope 0: the guess is 0 for all, so rank k is the one behind k others.
        for (int k = 0; k < 9; k++) {
            DUE.is("looks(" + 10 * k + ")", x.looks(10 * k), k + 1);
            DUE.is("find(" + 10 * k + ")", x.find(10 * k), k);
        }
        DUE.is("never met: looks(85)", x.looks(85), 9);
        DUE.is("never met: find(85)", x.find(85), KeyGuess.NONE);
    }

    // ---- Promises 10 to 15

    private static void pieces() {
        DUE.sentence("Promise 10: a level (0 .. 9) has; 0: there is no such level. BAD");
        KeyGuess x = twoPieces();
        DUE.is("pieces(0)", x.pieces(0), 2);
        DUE.is("pieces(1)", x.pieces(1), 1);
        for (int level = 2; level <= 9; level++) {
            DUE.is("pieces(" + level + ")", x.pieces(level), 0);
        }
        for (int bad : new int[] {-1, 10, Integer.MIN_VALUE, Integer.MAX_VALUE}) {
            DUE.is("pieces(" + bad + ")", x.pieces(bad), KeyGuess.BAD);
            DUE.is("no keys: pieces(" + bad + ")", new KeyGuess().pieces(bad), KeyGuess.BAD);
        }
        DUE.is("no keys: pieces(0)", new KeyGuess().pieces(0), 0);
        DUE.is("no keys: pieces(9)", new KeyGuess().pieces(9), 0);
    }

    private static void pieceOfLevel() {
        DUE.sentence("Promise 11: 0 i, 1 j, 2 its first KEY, 3 SLOPE's numerator, 4 denominator");
        KeyGuess x = Given.made(0, Given.squares(60));
        DUE.piece("the first", x, 0, 0, 0, 1, 0, 1, 1);
        DUE.piece("the last", x, 0, 29, 58, 59, 58 * 58, 1, 117);
        // i and j are ranks among the pieces below; 15 first keys leave one alone.
        DUE.piece("of level 2", x, 2, 7, 14, 14, 56 * 56, 0, 1);
    }

    private static void pieceBad() {
        DUE.sentence("Promise 11: BAD (no such PIECE, level)");
        KeyGuess x = twoPieces();
        int[][] bad = {
            {0, 2, 0}, {0, -1, 0}, {1, 1, 0}, {1, -1, 0}, {2, 0, 0}, {9, 0, 0}, {10, 0, 0}, {-1, 0, 0},
            {0, 0, -1}, {0, 0, 5}, {1, 0, 5}, {Integer.MAX_VALUE, 0, 0}, {Integer.MIN_VALUE, 0, 0},
            {0, Integer.MAX_VALUE, 0}, {0, Integer.MIN_VALUE, 0}, {0, 0, Integer.MAX_VALUE},
            {0, 0, Integer.MIN_VALUE}
        };
        for (int[] b : bad) {
            String call = "piece(" + b[0] + ", " + b[1] + ", " + b[2] + ")";
            DUE.is(call, x.piece(b[0], b[1], b[2]), KeyGuess.BAD);
            DUE.is("no keys: " + call, new KeyGuess().piece(b[0], b[1], b[2]), KeyGuess.BAD);
        }
        DUE.is("no keys: piece(0, 0, 0)", new KeyGuess().piece(0, 0, 0), KeyGuess.BAD);
        KeyGuess tall = Given.made(0, Given.squares(60));
        DUE.is("piece(0, 30, 0) of 30", tall.piece(0, 30, 0), KeyGuess.BAD);
        DUE.is("piece(5, 1, 0) of 1", tall.piece(5, 1, 0), KeyGuess.BAD);
        DUE.is("piece(6, 0, 0) of 6 levels", tall.piece(6, 0, 0), KeyGuess.BAD);
    }

    private static void levels() {
        DUE.sentence("Promise 12: How many levels; 0 without KEYS");
        DUE.is("new", new KeyGuess().levels(), 0);
        DUE.is("made of none", Given.made(2).levels(), 0);
        DUE.is("made of one", Given.made(2, 5).levels(), 1);
        DUE.is("made of two, slack 0", Given.made(0, 5, 6).levels(), 1);
        DUE.is("two pieces", twoPieces().levels(), 2);
        DUE.is("the most there can be", Given.made(0, Given.squares(60)).levels(), 6);
    }

    private static void guess() {
        DUE.sentence("Promise 13: GUESS; NONE. BAD");
        KeyGuess x = Given.made(2, 5);
        DUE.is("guess(0)", x.guess(0), 0);
        DUE.is("guess(1000000)", x.guess(1000000), 0);
        DUE.is("NEW alone: guess(5)", Given.with(5).guess(5), KeyGuess.NONE);
        for (int out : Given.OUT) {
            DUE.is("guess(" + out + ")", x.guess(out), KeyGuess.BAD);
            DUE.is("no keys: guess(" + out + ")", new KeyGuess().guess(out), KeyGuess.BAD);
        }
    }

    private static void find() {
        DUE.sentence("Promise 14: The RANK in THE ROW at which x is met when LOOKED for; NONE. BAD");
        KeyGuess x = Given.made(2, 0, 1000000);
        x.put(5);
        x.take(1000000);
        DUE.is("find(0)", x.find(0), 0);
        DUE.is("find(1000000) that is OLD", x.find(1000000), 1);
        DUE.is("find(5) that is NEW", x.find(5), KeyGuess.NONE);
        DUE.is("find(999999)", x.find(999999), KeyGuess.NONE);
        for (int out : Given.OUT) {
            DUE.is("find(" + out + ")", x.find(out), KeyGuess.BAD);
            DUE.is("no keys: find(" + out + ")", new KeyGuess().find(out), KeyGuess.BAD);
        }
    }

    private static void looks() {
        DUE.sentence("Promise 15: LOOKS for x (0 without KEYS). BAD");
        DUE.is("no keys: looks(0)", new KeyGuess().looks(0), 0);
        DUE.is("no keys: looks(1000000)", new KeyGuess().looks(1000000), 0);
        DUE.is("NEW alone: looks(5)", Given.with(5).looks(5), 0);
        KeyGuess x = Given.made(2, 5);
        DUE.is("looks(5)", x.looks(5), 1);
        DUE.is("looks(0)", x.looks(0), 1);
        for (int out : Given.OUT) {
            DUE.is("looks(" + out + ")", x.looks(out), KeyGuess.BAD);
            DUE.is("no keys: looks(" + out + ")", new KeyGuess().looks(out), KeyGuess.BAD);
        }
    }
}

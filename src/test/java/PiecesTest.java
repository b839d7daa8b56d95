/** Promises 10 to 15, in ordinary use. */
final class PiecesTest {
    private static final Due DUE = new Due();

    public static void main(String[] args) {
        pieces();
        longestIsNotFewest();
        slopes();
        levels();
        keptUntilMade();
        guess();
        looksAmongEvenKeys();
        looksBothSides();
        looksInOnePiece();
        withoutKeys();
        DUE.end();
    }

    private static void pieces() {
        KeyGuess x = Given.made(0, 10, 20, 30, 40, 55, 70, 85);
        DUE.is("pieces(0)", x.pieces(0), 2);
        DUE.piece("straight", x, 0, 0, 0, 3, 10, 1, 10);
        DUE.piece("straight", x, 0, 1, 4, 6, 55, 1, 15);
        DUE.is("pieces(1)", x.pieces(1), 1);
        DUE.piece("over it", x, 1, 0, 0, 1, 10, 1, 45);
        DUE.is("pieces(2)", x.pieces(2), 0);
        DUE.is("pieces(9)", x.pieces(9), 0);
        KeyGuess none = Given.made(2);
        DUE.is("pieces(0) without keys", none.pieces(0), 0);
        DUE.is("pieces(9) without keys", none.pieces(9), 0);
    }

    /** Ranks 0 to 2 go into one piece, but then three are needed: 0 to 2, 3 to 5, 6. */
    private static void longestIsNotFewest() {
        KeyGuess x = Given.made(1, 3, 4, 5, 12, 15, 17, 34);
        DUE.is("fewest pieces(0)", x.pieces(0), 2);
        DUE.piece("fewest", x, 0, 0, 0, 1, 3, 0, 1);
        DUE.piece("fewest", x, 0, 1, 2, 6, 5, 1, 6);
    }

    private static void slopes() {
        DUE.piece("one key", Given.made(0, 1000000), 0, 0, 0, 0, 1000000, 0, 1);
        DUE.piece("slope 0 is enough", Given.made(2, 0, 1, 2), 0, 0, 0, 2, 0, 0, 1);
        // Bounds from below 1/10, 2/20, 3/30 with no slack; 0, 1/20, 2/30 with 1.
        DUE.piece("no slack", Given.made(0, 0, 10, 20, 30), 0, 0, 0, 3, 0, 1, 10);
        DUE.piece("slack 1", Given.made(1, 0, 10, 20, 30), 0, 0, 0, 3, 0, 1, 15);
        // The bound that counts need not be the last one: 0, 1/2, 2/8, 3/9, and 4/8 from above.
        DUE.piece("bound in between", Given.made(1, 0, 1, 2, 8, 9), 0, 0, 0, 4, 0, 1, 2);
        // Above 0 are the bounds 1/6, 2/7, 3/8.
        DUE.piece("slack 5", Given.made(5, 0, 1, 2, 3, 4, 5, 6, 7, 8), 0, 0, 0, 8, 0, 3, 8);
        // So need the bound from above: 2/100 by the second key is below 3/103 by the fifth.
        DUE.piece("bound from above", Given.made(1, 0, 100, 101, 102, 103), 0, 0, 0, 3, 0, 1, 51);
        DUE.piece("far apart", Given.made(0, 0, 1000000), 0, 0, 0, 1, 0, 1, 1000000);
        // The slope is 1/2 or more by 2, at most 4/8 by 8 and 4/9 by 9.
        DUE.is("just allowed", Given.made(1, 0, 1, 2, 8).pieces(0), 1);
        DUE.is("just not allowed", Given.made(1, 0, 1, 2, 9).pieces(0), 2);
    }

    /** 60 squares halve to 30, 15, 8, 4, 2, 1. */
    private static void levels() {
        KeyGuess x = Given.made(0, Given.squares(60));
        int[] due = {30, 15, 8, 4, 2, 1, 0, 0, 0, 0};
        for (int level = 0; level < due.length; level++) {
            DUE.is("squares pieces(" + level + ")", x.pieces(level), due[level]);
        }
        DUE.is("squares levels()", x.levels(), 6);
        DUE.piece("squares", x, 0, 29, 58, 59, 58 * 58, 1, 117);
        DUE.piece("squares", x, 1, 14, 28, 29, 56 * 56, 1, 58 * 58 - 56 * 56);
        DUE.piece("squares", x, 2, 7, 14, 14, 56 * 56, 0, 1);
        DUE.piece("squares", x, 5, 0, 0, 1, 0, 1, 32 * 32);
        DUE.is("one level", Given.made(2, 5).levels(), 1);
        DUE.is("no level", Given.made(2).levels(), 0);
        // The upper level has the same slack: 0, 10000, 1000000 are not in line.
        KeyGuess y = Given.made(1, 0, 1, 2, 10000, 10001, 10002, 1000000);
        DUE.is("slack 1 pieces(0)", y.pieces(0), 3);
        DUE.piece("slack 1", y, 0, 1, 3, 5, 10000, 1, 2);
        DUE.is("slack 1 levels()", y.levels(), 2);
        DUE.piece("slack 1", y, 1, 0, 0, 2, 0, 1, 1000000);
    }

    private static void keptUntilMade() {
        KeyGuess x = Given.made(0, 10, 20, 30);
        x.put(31);
        x.put(32);
        x.take(20);
        DUE.piece("before", x, 0, 0, 0, 2, 10, 1, 10);
        DUE.is("before pieces(0)", x.pieces(0), 1);
        DUE.is("before levels()", x.levels(), 1);
        DUE.is("before guess(20)", x.guess(20), 1);
        DUE.is("before find(20)", x.find(20), 1);
        DUE.is("before looks(31)", x.looks(31), 1);
        DUE.is("before find(31)", x.find(31), KeyGuess.NONE);
        x.make();
        DUE.is("after pieces(0)", x.pieces(0), 2);
        DUE.piece("after", x, 0, 0, 0, 1, 10, 1, 20);
        DUE.piece("after", x, 0, 1, 2, 3, 31, 1, 1);
        DUE.is("after find(31)", x.find(31), 2);
        DUE.is("after find(20)", x.find(20), KeyGuess.NONE);
    }

    /** Two pieces: 10, 20, 30, 40 with 1/10 and 55, 70, 85 with 1/15. */
    private static void guess() {
        KeyGuess x = Given.made(0, 10, 20, 30, 40, 55, 70, 85);
        int[][] due = {
            {0, 0}, {9, 0}, {10, 0}, {19, 0}, {20, 1}, {39, 2}, {40, 3}, {50, 3}, {54, 3},
            {55, 4}, {69, 4}, {70, 5}, {84, 5}, {85, 6}, {100, 6}, {1000000, 6}
        };
        for (int[] d : due) {
            DUE.is("guess(" + d[0] + ")", x.guess(d[0]), d[1]);
        }
        KeyGuess y = Given.made(8, 0, 1000000);
        DUE.is("slope 0 guess", y.guess(1000000), 0);
        KeyGuess z = Given.made(0, 500, 1000);
        DUE.is("far below the first", z.guess(0), 0);
    }

    /** Ten keys 0, 10, .. 90 with slack 2: slope 7/90, so the guess of rank k is 7k / 9, cut. */
    private static void looksAmongEvenKeys() {
        KeyGuess x = Given.made(2, Given.line(10, 10));
        DUE.piece("even", x, 0, 0, 0, 9, 0, 7, 90);
        int[] looks = {1, 2, 3, 3, 3, 5, 5, 5, 5, 5};
        for (int k = 0; k < looks.length; k++) {
            DUE.is("guess(" + 10 * k + ")", x.guess(10 * k), 7 * k / 9);
            DUE.is("find(" + 10 * k + ")", x.find(10 * k), k);
            DUE.is("looks(" + 10 * k + ")", x.looks(10 * k), looks[k]);
        }
        DUE.is("find(5)", x.find(5), KeyGuess.NONE);
        DUE.is("looks(5): 0 1 2", x.looks(5), 3);
        DUE.is("looks(45): 3 2 4 1 5", x.looks(45), 5);
        DUE.is("looks(1000): 9 8 7", x.looks(1000), 3);
        DUE.is("find(1000)", x.find(1000), KeyGuess.NONE);
    }

    /** Slope 1/2: the guess of 8, rank 3, is 4; that of 2, rank 2, is 1. */
    private static void looksBothSides() {
        KeyGuess x = Given.made(1, 0, 1, 2, 8, 9);
        DUE.is("guess(8)", x.guess(8), 4);
        DUE.is("find(8)", x.find(8), 3);
        DUE.is("looks(8): 4 3", x.looks(8), 2);
        DUE.is("find(2)", x.find(2), 2);
        DUE.is("looks(2): 1 0 2", x.looks(2), 3);
        DUE.is("looks(9): 4", x.looks(9), 1);
        DUE.is("looks(7): 3 2 4", x.looks(7), 3);
    }

    /** The second piece, 5 to 34 with 1/6, begins at rank 2: ranks below are not looked at. */
    private static void looksInOnePiece() {
        KeyGuess x = Given.made(1, 3, 4, 5, 12, 15, 17, 34);
        DUE.is("guess(6)", x.guess(6), 2);
        DUE.is("looks(6): 2 3", x.looks(6), 2);
        DUE.is("find(34)", x.find(34), 6);
        DUE.is("looks(34): 6", x.looks(34), 1);
        DUE.is("find(17)", x.find(17), 5);
        DUE.is("looks(17): 4 3 5", x.looks(17), 3);
        DUE.is("find(4)", x.find(4), 1);
        DUE.is("looks(4): 0 1", x.looks(4), 2);
        DUE.is("looks(0): 0 1", x.looks(0), 2);
    }

    private static void withoutKeys() {
        KeyGuess x = new KeyGuess();
        DUE.is("guess(5) of none", x.guess(5), KeyGuess.NONE);
        DUE.is("find(5) of none", x.find(5), KeyGuess.NONE);
        DUE.is("looks(5) of none", x.looks(5), 0);
        x.put(5);
        DUE.is("guess(5) of a NEW one", x.guess(5), KeyGuess.NONE);
        DUE.is("looks(5) of a NEW one", x.looks(5), 0);
        x.make();
        x.take(5);
        DUE.is("guess(5) of an OLD one", x.guess(5), 0);
        DUE.is("find(5) of an OLD one", x.find(5), 0);
        DUE.is("looks(5) of an OLD one", x.looks(5), 1);
        x.make();
        DUE.is("guess(5) of none again", x.guess(5), KeyGuess.NONE);
        DUE.is("find(5) of none again", x.find(5), KeyGuess.NONE);
        DUE.is("looks(5) of none again", x.looks(5), 0);
    }
}

/** Every sentence on keys that names a boundary case, each with a test of its own. */
final class KeysEdgesTest {
    private static final Due DUE = new Due();

    public static void main(String[] args) {
        terms();
        aside();
        promises();
        DUE.end();
    }

    private static void terms() {
        numbers();
        noTwoTheSame();
        sixty();
        rowRises();
        ranks();
        slackAtFirst();
        slackBounds();
        lastOfCalls();
    }

    private static void aside() {
        eightNew();
        eightOld();
        eightOfBoth();
        oldComesAgain();
        oldComesAgainPastEight();
        newGoes();
        newGoesPastEight();
        thereNow();
        ninthComes();
        ninthComesToNone();
        ninthIsTheSixtieth();
        ninthGoes();
        ninthGoesOfSixty();
        ninthRefused();
        madeWhenAsked();
        cost();
        placeAtBothEnds();
    }

    private static void promises() {
        newObject();
        put();
        take();
        make();
        slack();
        place();
        at();
        range();
        sum();
        sumOfTheGreatest();
    }

    // ---- Terms

    private static void numbers() {
        DUE.sentence("KEYS are whole numbers 0 .. 1000000");
        KeyGuess x = new KeyGuess();
        for (int out : Given.OUT) {
            DUE.is("put(" + out + ")", x.put(out), KeyGuess.BAD);
        }
        DUE.is("put(1000000)", x.put(1000000), 1);
        DUE.is("put(0)", x.put(0), 2);
        DUE.is("at(0)", x.at(0), 0);
        DUE.is("at(1)", x.at(1), 1000000);
        x.make();
        DUE.is("find(0)", x.find(0), 0);
        DUE.is("find(1000000)", x.find(1000000), 1);
        DUE.is("take(0)", x.take(0), 1);
        DUE.is("take(1000000)", x.take(1000000), 0);
    }

    private static void noTwoTheSame() {
        DUE.sentence("no two the same");
        KeyGuess x = Given.with(5);
        DUE.is("put(5) that is NEW", x.put(5), KeyGuess.NOT);
        x.make();
        DUE.is("put(5) of the row", x.put(5), KeyGuess.NOT);
        x.take(5);
        DUE.is("put(5) that is OLD", x.put(5), 1);
        DUE.is("put(5) that came again", x.put(5), KeyGuess.NOT);
        DUE.is("range(5, 5)", x.range(5, 5), 1);
        DUE.counts("one 5", x, 1, 1, 0, 0);
    }

    private static void sixty() {
        DUE.sentence("60 at most");
        KeyGuess x = new KeyGuess();
        for (int k = 1; k <= 60; k++) {
            DUE.is("put " + k, x.put(1000 - k), k);
        }
        DUE.is("put 61", x.put(1000), KeyGuess.FULL);
        DUE.is("range", x.range(0, 1000000), 60);
        DUE.is("take", x.take(999), 59);
        DUE.is("put 60 again", x.put(1000), 60);
        DUE.is("put 61 again", x.put(1001), KeyGuess.FULL);
    }

    private static void rowRises() {
        DUE.sentence("THE ROW are those KEYS that were there when it was MADE last, rising");
        KeyGuess x = Given.made(0, 30, 20, 10);
        x.put(5);
        x.take(20);
        DUE.is("find(10)", x.find(10), 0);
        DUE.is("find(20) that went", x.find(20), 1);
        DUE.is("find(30)", x.find(30), 2);
        DUE.is("find(5) that came", x.find(5), KeyGuess.NONE);
        x.make();
        DUE.is("made: find(5)", x.find(5), 0);
        DUE.is("made: find(10)", x.find(10), 1);
        DUE.is("made: find(20)", x.find(20), KeyGuess.NONE);
        DUE.is("made: find(30)", x.find(30), 2);
    }

    private static void ranks() {
        DUE.sentence("RANK of one is how many of THE ROW are less");
        KeyGuess x = Given.made(2, Given.line(60, 10));
        DUE.is("find(0), with none less", x.find(0), 0);
        DUE.is("find(590), with all others less", x.find(590), 59);
        DUE.is("find(0) of one", Given.made(2, 0).find(0), 0);
    }

    private static void slackAtFirst() {
        DUE.sentence("SLACK is e (..; 2 at first)");
        DUE.is("slack", new KeyGuess().slack(7), 2);
        // The bounds from below are 0, 0, 1/3 with 2; 2/3 would be the last with 1, 0 with 3.
        KeyGuess x = Given.with(0, 1, 2, 3);
        x.make();
        DUE.piece("slack 2", x, 0, 0, 0, 3, 0, 1, 3);
    }

    private static void slackBounds() {
        DUE.sentence("SLACK is e (0 .. 8; ..)");
        KeyGuess x = new KeyGuess();
        DUE.is("slack(9)", x.slack(9), KeyGuess.BAD);
        DUE.is("slack(-1)", x.slack(-1), KeyGuess.BAD);
        DUE.is("slack(8)", x.slack(8), 2);
        DUE.is("slack(0)", x.slack(0), 8);
        DUE.is("slack(0) again", x.slack(0), 0);
    }

    private static void lastOfCalls() {
        DUE.sentence("An object is used for at most 512 calls after it has been made");
        KeyGuess x = Given.with(Given.line(60, 10));
        for (int call = 61; call < 512; call++) {
            x.make();
        }
        // The row was made ahead of every eighth key but the first eight, then 452 times of all.
        DUE.is("the 512th call", x.make(), 8 + 16 + 24 + 32 + 40 + 48 + 56 + 452 * 60);
    }

    // ---- ASIDE

    private static void eightNew() {
        DUE.sentence("ASIDE are KEYS that came (NEW) .., 8 at most");
        KeyGuess x = Given.with(Given.line(8, 10));
        DUE.counts("8 NEW", x, 8, 0, 8, 0, 0);
        DUE.is("none of them is in the row", x.levels(), 0);
    }

    private static void eightOld() {
        DUE.sentence("ASIDE are KEYS that .. went (OLD) since THE ROW was MADE, 8 at most");
        KeyGuess x = Given.made(2, Given.line(8, 10));
        for (int k = 0; k < 8; k++) {
            DUE.is("take(" + 10 * k + ")", x.take(10 * k), 7 - k);
        }
        DUE.counts("8 OLD", x, 0, 8, 0, 8, 8);
        DUE.is("all are in the row", x.find(70), 7);
    }

    private static void eightOfBoth() {
        DUE.sentence("ASIDE are KEYS that came (NEW) or went (OLD) .., 8 at most");
        // Twelve came first, so a row of 8 was made ahead of the ninth, and then one of 12.
        KeyGuess x = Given.fourNewFourOld(2);
        DUE.counts("4 and 4", x, 12, 12, 4, 4, 20);
        x.put(200);
        DUE.counts("4 and 4, and one more", x, 13, 12, 1, 0, 32);
    }

    private static void oldComesAgain() {
        DUE.sentence("what comes again that is OLD is ASIDE no more");
        KeyGuess x = Given.made(2, 10, 20);
        x.take(10);
        DUE.counts("it went", x, 1, 2, 0, 1);
        DUE.is("put(10)", x.put(10), 2);
        DUE.counts("it came again", x, 2, 2, 0, 0, 2);
        DUE.is("place(10)", x.place(10), 0);
    }

    private static void oldComesAgainPastEight() {
        DUE.sentence("what comes again that is OLD is ASIDE no more, with 8 ASIDE");
        KeyGuess x = Given.fourNewFourOld(2);
        DUE.is("put(30)", x.put(30), 13);
        DUE.counts("no row was made", x, 13, 12, 4, 3, 20);
        DUE.is("there is room for one", x.put(200), 14);
        DUE.counts("no row was made still", x, 14, 12, 5, 3, 20);
    }

    private static void newGoes() {
        DUE.sentence("likewise what goes that is NEW");
        KeyGuess x = Given.made(2, 10, 20);
        x.put(30);
        DUE.counts("it came", x, 3, 2, 1, 0);
        DUE.is("take(30)", x.take(30), 2);
        DUE.counts("it went", x, 2, 2, 0, 0, 2);
        DUE.is("place(30)", x.place(30), KeyGuess.NONE);
    }

    private static void newGoesPastEight() {
        DUE.sentence("likewise what goes that is NEW, with 8 ASIDE");
        KeyGuess x = Given.fourNewFourOld(2);
        DUE.is("take(5)", x.take(5), 11);
        DUE.counts("no row was made", x, 11, 12, 3, 4, 20);
        DUE.is("there is room for one", x.take(110), 10);
        DUE.counts("no row was made still", x, 10, 12, 3, 5, 20);
    }

    private static void thereNow() {
        DUE.sentence("KEYS there now are those of THE ROW without OLD ones, and NEW ones");
        KeyGuess x = Given.made(2, 10, 20);
        x.take(10);
        x.take(20);
        DUE.is("without all of the row", x.range(0, 1000000), 0);
        DUE.is("at(0)", x.at(0), KeyGuess.BAD);
        x.put(15);
        DUE.is("with a NEW one alone", x.range(0, 1000000), 1);
        DUE.is("at(0) that is NEW", x.at(0), 15);
    }

    private static void ninthComes() {
        DUE.sentence("Ahead of a ninth THE ROW is MADE anew (the ninth is ASIDE alone then), coming");
        KeyGuess x = Given.with(Given.line(8, 10));
        DUE.is("put(80)", x.put(80), 9);
        DUE.counts("the ninth came", x, 9, 8, 1, 0, 8);
        DUE.is("the eighth is in the row", x.find(70), 7);
        DUE.is("the ninth is not", x.find(80), KeyGuess.NONE);
        DUE.is("the ninth is there", x.place(80), 8);
    }

    private static void ninthComesToNone() {
        DUE.sentence("Ahead of a ninth THE ROW is MADE anew, of no KEYS");
        KeyGuess x = Given.made(2, Given.line(8, 10));
        for (int k = 0; k < 8; k++) {
            x.take(10 * k);
        }
        DUE.is("put(500)", x.put(500), 1);
        // 500 = 61 * 8 + 12: bits 12 and 8.
        DUE.counts("a row of none", x, 1, 0, 1, 0, 8, 2);
        DUE.is("levels", x.levels(), 0);
        DUE.is("guess(500)", x.guess(500), KeyGuess.NONE);
        DUE.is("maybe(70) that was in the row before", x.maybe(70), 0);
    }

    private static void ninthIsTheSixtieth() {
        DUE.sentence("Ahead of a ninth THE ROW is MADE anew, the ninth being the 60th KEY");
        // Rows of 8, 16, 24, 32, 40, 48 were made while 51 came, and one of 51 when they were there.
        KeyGuess x = Given.eightNewOver(51, 2);
        DUE.counts("59 with 8 NEW", x, 59, 51, 8, 0, 168 + 51);
        DUE.is("put(2000)", x.put(2000), 60);
        DUE.counts("60 with 1 NEW", x, 60, 59, 1, 0, 168 + 51 + 59);
    }

    private static void ninthGoes() {
        DUE.sentence("Ahead of a ninth THE ROW is MADE anew (the ninth is ASIDE alone then), going");
        KeyGuess x = Given.fourNewFourOld(2);
        DUE.is("take(110)", x.take(110), 11);
        DUE.counts("the ninth went", x, 11, 12, 0, 1, 32);
        DUE.is("it is in the row", x.find(110), 11);
        DUE.is("it is not there", x.place(110), KeyGuess.NONE);
        DUE.is("what was NEW is in the row", x.find(5), 0);
        DUE.is("what was OLD is not", x.find(30), KeyGuess.NONE);
    }

    private static void ninthGoesOfSixty() {
        DUE.sentence("Ahead of a ninth THE ROW is MADE anew, of 60 KEYS");
        KeyGuess x = Given.eightNewOver(52, 2);
        DUE.is("take(0)", x.take(0), 59);
        DUE.counts("a row of 60", x, 59, 60, 0, 1, 168 + 52 + 60);
        DUE.is("find(1007)", x.find(1007), 59);
    }

    private static void ninthRefused() {
        DUE.sentence("Refused, and nothing changes: no row ahead of a ninth that is refused");
        KeyGuess x = Given.fourNewFourOld(2);
        DUE.is("put(1000001)", x.put(1000001), KeyGuess.BAD);
        DUE.is("put(5) that is there", x.put(5), KeyGuess.NOT);
        DUE.is("take(-1)", x.take(-1), KeyGuess.BAD);
        DUE.is("take(0) that is OLD", x.take(0), KeyGuess.NOT);
        DUE.is("take(7) that never was", x.take(7), KeyGuess.NOT);
        DUE.counts("8 ASIDE still", x, 12, 12, 4, 4, 20);
        // Rows of 8, 16, 24, 32, 40, 48 were made while 52 came, and one of 52 when they were there.
        KeyGuess full = Given.eightNewOver(52, 2);
        DUE.is("the 61st", full.put(2000), KeyGuess.FULL);
        DUE.counts("60 and 8 ASIDE still", full, 60, 52, 8, 0, 168 + 52);
    }

    private static void madeWhenAsked() {
        DUE.sentence("as it is when that is asked for");
        KeyGuess x = Given.with(10);
        x.make();
        DUE.counts("with 1 NEW", x, 1, 1, 0, 0, 1);
        x.make();
        DUE.counts("with none ASIDE", x, 1, 1, 0, 0, 2);
        x.take(10);
        x.make();
        DUE.counts("with 1 OLD and no KEYS", x, 0, 0, 0, 0, 2);
    }

    private static void cost() {
        DUE.sentence("COST grows by as many KEYS as THE ROW has then");
        KeyGuess x = new KeyGuess();
        DUE.is("make of none", x.make(), 0);
        x.put(1);
        DUE.is("make of one", x.make(), 1);
        DUE.is("slack makes it too", x.slack(3), 2);
        DUE.is("cost", x.count(4), 2);
        x.take(1);
        DUE.is("make of none again", x.make(), 2);
        KeyGuess full = Given.with(Given.line(60, 1));
        int before = full.count(4);
        DUE.is("make of 60", full.make(), before + 60);
    }

    private static void placeAtBothEnds() {
        DUE.sentence("PLACE of a KEY there now: how many that are there now are less");
        KeyGuess x = Given.made(2, Given.line(60, 10));
        DUE.is("place(0)", x.place(0), 0);
        DUE.is("place(590)", x.place(590), 59);
        x.take(0);
        DUE.is("an OLD one counts no more", x.place(590), 58);
        x.put(589);
        DUE.is("a NEW one counts", x.place(590), 59);
        DUE.is("a NEW one has its own", x.place(589), 58);
    }

    // ---- Promises 1 to 9

    private static void newObject() {
        DUE.sentence("Promise 1: No KEYS");
        KeyGuess x = new KeyGuess();
        DUE.counts("new", x, 0, 0, 0, 0, 0, 0);
        DUE.is("at(0)", x.at(0), KeyGuess.BAD);
        DUE.is("place(0)", x.place(0), KeyGuess.NONE);
        DUE.is("range", x.range(0, 1000000), 0);
        DUE.is("sum", x.sum(0, 1000000), 0);
        DUE.is("pieces(0)", x.pieces(0), 0);
        DUE.is("piece(0, 0, 0)", x.piece(0, 0, 0), KeyGuess.BAD);
        DUE.is("levels()", x.levels(), 0);
        DUE.is("guess(0)", x.guess(0), KeyGuess.NONE);
        DUE.is("find(0)", x.find(0), KeyGuess.NONE);
        DUE.is("looks(0)", x.looks(0), 0);
        DUE.is("maybe(0)", x.maybe(0), 0);
        DUE.is("wrong(0, 2000)", x.wrong(0, 2000), 0);
        DUE.is("poison(7, 47, 0)", x.poison(7, 47, 0), 7);
        DUE.is("poison(7, 47, 1)", x.poison(7, 47, 1), 1);
        DUE.is("take(0)", x.take(0), KeyGuess.NOT);
        DUE.is("make()", x.make(), 0);
        DUE.is("slack(2)", x.slack(2), 2);
    }

    private static void put() {
        DUE.sentence("Promise 2: BAD; NOT: it is there; FULL: 60 are");
        KeyGuess x = Given.with(Given.line(59, 10));
        DUE.is("put(580) that is there", x.put(580), KeyGuess.NOT);
        DUE.is("put(581) beside it", x.put(581), 60);
        DUE.is("put(582) with 60", x.put(582), KeyGuess.FULL);
        DUE.is("put(581) that is there, with 60", x.put(581), KeyGuess.NOT);
        for (int out : Given.OUT) {
            DUE.is("put(" + out + ") with 60", x.put(out), KeyGuess.BAD);
        }
        x.make();
        x.take(0);
        x.put(1);
        DUE.is("put(0) that is OLD, with 60", x.put(0), KeyGuess.FULL);
    }

    private static void take() {
        DUE.sentence("Promise 3: BAD; NOT: it is not there");
        KeyGuess x = Given.made(2, 10, 20);
        DUE.is("take(9)", x.take(9), KeyGuess.NOT);
        DUE.is("take(11)", x.take(11), KeyGuess.NOT);
        DUE.is("take(0)", x.take(0), KeyGuess.NOT);
        DUE.is("take(1000000)", x.take(1000000), KeyGuess.NOT);
        for (int out : Given.OUT) {
            DUE.is("take(" + out + ")", x.take(out), KeyGuess.BAD);
        }
        DUE.is("take(10)", x.take(10), 1);
        DUE.is("take(10) that is OLD", x.take(10), KeyGuess.NOT);
        DUE.is("take(20), the last one", x.take(20), 0);
        DUE.is("take(20) of none", x.take(20), KeyGuess.NOT);
    }

    private static void make() {
        DUE.sentence("Promise 4: THE ROW is MADE anew: COST");
        KeyGuess x = Given.with(10, 20);
        DUE.is("make()", x.make(), 2);
        DUE.is("make() with nothing ASIDE", x.make(), 4);
        x.take(10);
        x.take(20);
        DUE.is("make() of none", x.make(), 4);
        DUE.counts("of none", x, 0, 0, 0, 0, 4, 0);
    }

    private static void slack() {
        DUE.sentence("Promise 5: SLACK; THE ROW is MADE anew then: which it was. BAD");
        KeyGuess x = Given.with(0, 10, 1000);
        for (int bad : new int[] {-1, 9, Integer.MIN_VALUE, Integer.MAX_VALUE}) {
            DUE.is("slack(" + bad + ")", x.slack(bad), KeyGuess.BAD);
        }
        DUE.counts("refused", x, 3, 0, 3, 0, 0);
        DUE.is("slack(0)", x.slack(0), 2);
        DUE.counts("made", x, 3, 3, 0, 0, 3);
        DUE.is("pieces with slack 0", x.pieces(0), 2);
        DUE.is("slack(8)", x.slack(8), 0);
        DUE.is("pieces with slack 8", x.pieces(0), 1);
        DUE.is("slack(8), which it is", x.slack(8), 8);
        DUE.is("made once more", x.count(4), 9);
    }

    private static void place() {
        DUE.sentence("Promise 6: NONE: it is no KEY there now. BAD");
        KeyGuess x = Given.made(2, 10, 20);
        x.take(10);
        x.put(30);
        DUE.is("place(10) that is OLD", x.place(10), KeyGuess.NONE);
        DUE.is("place(30) that is NEW", x.place(30), 1);
        DUE.is("place(0)", x.place(0), KeyGuess.NONE);
        DUE.is("place(19)", x.place(19), KeyGuess.NONE);
        DUE.is("place(1000000)", x.place(1000000), KeyGuess.NONE);
        for (int out : Given.OUT) {
            DUE.is("place(" + out + ")", x.place(out), KeyGuess.BAD);
        }
    }

    private static void at() {
        DUE.sentence("Promise 7: BAD: no such one");
        KeyGuess x = Given.with(Given.line(60, 10));
        DUE.is("at(59)", x.at(59), 590);
        DUE.is("at(60)", x.at(60), KeyGuess.BAD);
        DUE.is("at(-1)", x.at(-1), KeyGuess.BAD);
        DUE.is("at(MIN)", x.at(Integer.MIN_VALUE), KeyGuess.BAD);
        DUE.is("at(MAX)", x.at(Integer.MAX_VALUE), KeyGuess.BAD);
        x.take(0);
        DUE.is("at(58) of 59", x.at(58), 590);
        DUE.is("at(59) of 59", x.at(59), KeyGuess.BAD);
        DUE.is("at(0) of none", new KeyGuess().at(0), KeyGuess.BAD);
    }

    private static void range() {
        DUE.sentence("Promise 8: BAD: also a above b");
        KeyGuess x = Given.with(0, 10, 20, 1000000);
        DUE.is("range(11, 10)", x.range(11, 10), KeyGuess.BAD);
        DUE.is("range(1000000, 0)", x.range(1000000, 0), KeyGuess.BAD);
        DUE.is("range(10, 10)", x.range(10, 10), 1);
        DUE.is("range(11, 11)", x.range(11, 11), 0);
        DUE.is("range(10, 20)", x.range(10, 20), 2);
        DUE.is("range(11, 19)", x.range(11, 19), 0);
        DUE.is("range(0, 0)", x.range(0, 0), 1);
        DUE.is("range(1000000, 1000000)", x.range(1000000, 1000000), 1);
        DUE.is("range(0, 1000000)", x.range(0, 1000000), 4);
        for (int out : Given.OUT) {
            DUE.is("range(" + out + ", 1000000)", x.range(out, 1000000), KeyGuess.BAD);
            DUE.is("range(0, " + out + ")", x.range(0, out), KeyGuess.BAD);
        }
    }

    private static void sum() {
        DUE.sentence("Promise 9: -2: BAD");
        KeyGuess x = Given.with(0, 10, 20, 1000000);
        DUE.is("sum(11, 10)", x.sum(11, 10), -2L);
        DUE.is("sum(1000000, 0)", x.sum(1000000, 0), -2L);
        DUE.is("sum(10, 10)", x.sum(10, 10), 10L);
        DUE.is("sum(11, 11)", x.sum(11, 11), 0L);
        DUE.is("sum(10, 20)", x.sum(10, 20), 30L);
        DUE.is("sum(11, 19)", x.sum(11, 19), 0L);
        DUE.is("sum(0, 0)", x.sum(0, 0), 0L);
        DUE.is("sum(1000000, 1000000)", x.sum(1000000, 1000000), 1000000L);
        for (int out : Given.OUT) {
            DUE.is("sum(" + out + ", 1000000)", x.sum(out, 1000000), -2L);
            DUE.is("sum(0, " + out + ")", x.sum(0, out), -2L);
        }
    }

    private static void sumOfTheGreatest() {
        DUE.sentence("Promise 9: The sum of these, 60 of the greatest there can be");
        KeyGuess x = new KeyGuess();
        for (int k = 0; k < 60; k++) {
            x.put(1000000 - k);
        }
        DUE.is("sum(0, 1000000)", x.sum(0, 1000000), 60L * 1000000 - 59 * 30);
    }
}

/** Every sentence on the filter and on poison that names a boundary case, each with a test of its own. */
final class FilterEdgesTest {
    private static final Due DUE = new Due();

    public static void main(String[] args) {
        filter();
        poisons();
        promises();
        DUE.end();
    }

    private static void filter() {
        allBits();
        cameSinceMade();
        wasInTheRow();
        moduloSixtyOne();
        moduloSixtyFour();
        bothBits();
        numbersApart();
        noKeysThereNow();
    }

    private static void poisons() {
        poisonApart();
        poisonIsNoKeyThereNow();
        poisonOfAllKeysThen();
        poisonTheMost();
        poisonTheLeast();
    }

    private static void promises() {
        maybe();
        wrong();
        wrongFromNoneToAMillion();
        poisonAllAreKeys();
        poisonBad();
        poisonFull();
        poisonWithout();
        count();
    }

    // ---- THE FILTER

    private static void allBits() {
        DUE.sentence("THE FILTER has 64 bits");
        KeyGuess x = new KeyGuess();
        // Each sets two bits of its own: k and 32 + k.
        for (int k = 0; k < 32; k++) {
            DUE.is("bits with " + k + " keys", x.count(5), 2 * k);
            x.put(61 * (32 + k) + k);
        }
        DUE.is("all bits", x.count(5), 64);
        DUE.is("maybe(0)", x.maybe(0), 1);
        DUE.is("maybe(1000000)", x.maybe(1000000), 1);
        // 1952 alone of 0 .. 2000 is a key.
        DUE.is("wrong(0, 2000)", x.wrong(0, 2000), 2000);
    }

    private static void cameSinceMade() {
        DUE.sentence("each KEY that came since THE ROW was MADE");
        KeyGuess x = Given.with(100);
        DUE.is("it is NEW", x.maybe(100), 1);
        x.take(100);
        DUE.is("it was NEW and went", x.maybe(100), 1);
        DUE.is("its bits", x.count(5), 2);
        x.make();
        DUE.is("it came before", x.maybe(100), 0);
        DUE.is("no bits", x.count(5), 0);
        KeyGuess ninth = Given.with(Given.line(9, 61));
        // The row of 8 has bits 0 .. 7; the ninth, which came since, has 0 and 8.
        DUE.is("the ninth", ninth.maybe(488), 1);
        DUE.is("bits of nine", ninth.count(5), 9);
    }

    private static void wasInTheRow() {
        DUE.sentence("or was in it");
        KeyGuess x = Given.made(2, 100);
        DUE.is("it is in the row", x.maybe(100), 1);
        x.take(100);
        DUE.is("it is OLD", x.maybe(100), 1);
        x.put(100);
        DUE.is("it came again", x.count(5), 2);
        x.take(100);
        x.make();
        DUE.is("it was in the row before", x.maybe(100), 0);
    }

    private static void moduloSixtyOne() {
        DUE.sentence("sets bits x modulo 61");
        // Bits 60 and 0; then 0 and 1; 1 alone.
        DUE.is("bits of 60", Given.made(2, 60).count(5), 2);
        DUE.is("bits of 61", Given.made(2, 61).count(5), 2);
        DUE.is("bits of 62", Given.made(2, 62).count(5), 1);
        DUE.is("bits of 60 and 61", Given.made(2, 60, 61).count(5), 3);
        DUE.is("bits of 0 and 61", Given.made(2, 0, 61).count(5), 2);
    }

    private static void moduloSixtyFour() {
        DUE.sentence("and (x / 61, cut) modulo 64");
        // 3903 = 61 * 63 + 60; 3904 = 61 * 64, whose bits are both 0.
        DUE.is("bits of 3903", Given.made(2, 3903).count(5), 2);
        DUE.is("bits of 3904", Given.made(2, 3904).count(5), 1);
        DUE.is("maybe(3904) with 0", Given.made(2, 0).maybe(3904), 1);
        DUE.is("maybe(3843) with 0: bits 0, 63", Given.made(2, 0).maybe(3843), 0);
        DUE.is("maybe(3903) with 3843", Given.made(2, 3843).maybe(3903), 0);
        DUE.is("maybe(3903) with 3843, 60", Given.made(2, 3843, 60).maybe(3903), 1);
        // 1000000 = 61 * 16393 + 27, and 16393 = 64 * 256 + 9; 576 = 61 * 9 + 27.
        DUE.is("maybe(1000000) with 576", Given.made(2, 576).maybe(1000000), 1);
        DUE.is("maybe(999999) with 576", Given.made(2, 576).maybe(999999), 0);
    }

    private static void bothBits() {
        DUE.sentence("MAYBE is a number both of whose bits are set");
        // 200 = 61 * 3 + 17: bits 17 and 3.
        KeyGuess x = Given.made(2, 200);
        DUE.is("bits 17, 3", x.maybe(200), 1);
        DUE.is("bits 17, 4", x.maybe(261), 0);
        DUE.is("bits 18, 3", x.maybe(201), 0);
        DUE.is("bits 3, 17", x.maybe(61 * 17 + 3), 1);
        DUE.is("bits 3, 3", x.maybe(61 * 3 + 3), 1);
        DUE.is("bits 18, 4", x.maybe(262), 0);
    }

    private static void numbersApart() {
        DUE.sentence("from a to b (a up to 2000 apart)");
        // With 0 the multiples of 3904 are MAYBE.
        KeyGuess x = Given.made(2, 0);
        DUE.is("wrong(1904, 3904)", x.wrong(1904, 3904), 1);
        DUE.is("wrong(3904, 5904)", x.wrong(3904, 5904), 1);
        DUE.is("wrong(1903, 3903)", x.wrong(1903, 3903), 0);
        DUE.is("wrong(3905, 5905)", x.wrong(3905, 5905), 0);
        DUE.is("wrong(3904, 3904)", x.wrong(3904, 3904), 1);
        DUE.is("wrong(1903, 3904)", x.wrong(1903, 3904), KeyGuess.BAD);
        DUE.is("wrong(3904, 5905)", x.wrong(3904, 5905), KeyGuess.BAD);
    }

    private static void noKeysThereNow() {
        DUE.sentence("are MAYBE and no KEYS there now");
        KeyGuess x = Given.made(2, 0);
        DUE.is("a key of the row", x.wrong(0, 0), 0);
        x.take(0);
        DUE.is("an OLD one", x.wrong(0, 0), 1);
        x.put(3904);
        DUE.is("a NEW one", x.wrong(3904, 3904), 0);
        x.take(3904);
        DUE.is("one that was NEW", x.wrong(3904, 3904), 1);
    }

    // ---- POISON

    private static void poisonApart() {
        DUE.sentence("POISON from a to b (at most 40 apart)");
        KeyGuess last = Given.with(Given.line(59, 1));
        DUE.is("b alone is no key", last.poison(19, 59, 0), 59);
        DUE.is("41 apart", last.poison(19, 60, 0), KeyGuess.BAD);
        KeyGuess first = new KeyGuess();
        for (int k = 1; k < 60; k++) {
            first.put(k);
        }
        DUE.is("a alone is no key", first.poison(0, 40, 0), 0);
        DUE.is("41 apart from 0", first.poison(0, 41, 0), KeyGuess.BAD);
        DUE.is("one number", first.poison(0, 0, 0), 0);
    }

    private static void poisonIsNoKeyThereNow() {
        DUE.sentence("the number that is no KEY there now");
        KeyGuess x = Given.made(0, 0, 10);
        DUE.is("a key of the row", x.poison(10, 10, 0), KeyGuess.NONE);
        x.take(10);
        DUE.is("an OLD one", x.poison(10, 10, 0), 10);
        x.put(11);
        DUE.is("a NEW one", x.poison(11, 11, 0), KeyGuess.NONE);
        x.take(11);
        DUE.is("one that was NEW", x.poison(11, 11, 0), 11);
    }

    private static void poisonOfAllKeysThen() {
        DUE.sentence("if it came and THE ROW were MADE of all KEYS then");
        KeyGuess x = Given.made(0, 0, 10);
        DUE.is("0 10, 25", x.poison(25, 25, 1), 2);
        DUE.is("0 10 20", x.poison(20, 20, 1), 1);
        x.put(11);
        DUE.is("0 10, 11 20", x.poison(20, 20, 1), 2);
        x.take(0);
        x.take(10);
        DUE.is("11 20", x.poison(20, 20, 1), 1);
    }

    private static void poisonTheMost() {
        DUE.sentence("there would be the most PIECES");
        // 10 leaves 0 10 20, 40 50 60; 11 leaves 0 11, 20 40, 50 60.
        KeyGuess x = Given.made(0, 0, 20, 40, 50, 60);
        DUE.is("two by 10", x.poison(10, 10, 1), 2);
        DUE.is("three by 11", x.poison(10, 11, 1), 3);
        DUE.is("the later one", x.poison(10, 11, 0), 11);
        KeyGuess full = Given.made(0, Given.squares(59));
        DUE.is("thirty with the 60th", full.poison(59 * 59, 59 * 59, 1), 30);
    }

    private static void poisonTheLeast() {
        DUE.sentence("of several the least");
        KeyGuess x = Given.made(0, 0, 10, 20);
        DUE.is("poison(0, 40, 0): 0 is a key", x.poison(0, 40, 0), 1);
        DUE.is("poison(5, 9, 0): 5 leaves 0 5 10, 20", x.poison(5, 9, 0), 5);
        DUE.is("poison(30, 40, 0): 30 is in line", x.poison(30, 40, 0), 31);
        DUE.is("poison(29, 40, 0)", x.poison(29, 40, 0), 29);
        DUE.is("all as few", Given.made(8, 0, 10).poison(11, 51, 0), 11);
    }

    // ---- Promises 16 to 19

    private static void maybe() {
        DUE.sentence("Promise 16: Whether x is MAYBE (1, 0). BAD");
        KeyGuess x = Given.made(2, 0, 1000000);
        DUE.is("maybe(0)", x.maybe(0), 1);
        DUE.is("maybe(1000000)", x.maybe(1000000), 1);
        DUE.is("maybe(999999)", x.maybe(999999), 0);
        for (int out : Given.OUT) {
            DUE.is("maybe(" + out + ")", x.maybe(out), KeyGuess.BAD);
            DUE.is("no keys: maybe(" + out + ")", new KeyGuess().maybe(out), KeyGuess.BAD);
        }
    }

    private static void wrong() {
        DUE.sentence("Promise 17: BAD: also a above b, or too far apart");
        KeyGuess x = Given.made(2, 0);
        DUE.is("wrong(1, 0)", x.wrong(1, 0), KeyGuess.BAD);
        DUE.is("wrong(1000000, 0)", x.wrong(1000000, 0), KeyGuess.BAD);
        DUE.is("wrong(0, 0)", x.wrong(0, 0), 0);
        DUE.is("wrong(0, 2000)", x.wrong(0, 2000), 0);
        DUE.is("wrong(0, 2001)", x.wrong(0, 2001), KeyGuess.BAD);
        DUE.is("wrong(0, 1000000)", x.wrong(0, 1000000), KeyGuess.BAD);
        DUE.is("wrong(997999, 1000000)", x.wrong(997999, 1000000), KeyGuess.BAD);
        DUE.is("wrong(-1, 1999)", x.wrong(-1, 1999), KeyGuess.BAD);
        DUE.is("wrong(998001, 1000001)", x.wrong(998001, 1000001), KeyGuess.BAD);
        for (int out : Given.OUT) {
            DUE.is("wrong(" + out + ", 0)", x.wrong(out, 0), KeyGuess.BAD);
            DUE.is("wrong(1000000, " + out + ")", x.wrong(1000000, out), KeyGuess.BAD);
            DUE.is("wrong(" + out + ", " + out + ")", x.wrong(out, out), KeyGuess.BAD);
        }
        // What is apart would wrap around to -1.
        int least = Integer.MIN_VALUE;
        DUE.is("wrong(MIN, MAX)", x.wrong(least, Integer.MAX_VALUE), KeyGuess.BAD);
        DUE.is("wrong(MAX, MIN)", x.wrong(Integer.MAX_VALUE, least), KeyGuess.BAD);
    }

    private static void wrongFromNoneToAMillion() {
        DUE.sentence("Promise 17: FALSE, at the last numbers");
        // Bits 27 and 9: of 998000 .. 1000000 also 61 * 16393 + 9 = 999982 is MAYBE.
        KeyGuess x = Given.made(2, 1000000);
        DUE.is("wrong(998000, 1000000)", x.wrong(998000, 1000000), 1);
        DUE.is("wrong(999982, 999982)", x.wrong(999982, 999982), 1);
        x.take(1000000);
        DUE.is("1000000 went", x.wrong(998000, 1000000), 2);
        DUE.is("wrong(1000000, 1000000)", x.wrong(1000000, 1000000), 1);
    }

    private static void poisonAllAreKeys() {
        DUE.sentence("Promise 18: NONE: all are KEYS");
        KeyGuess x = Given.with(Given.line(59, 1));
        DUE.is("41 keys: the number", x.poison(18, 58, 0), KeyGuess.NONE);
        DUE.is("41 keys: pieces", x.poison(18, 58, 1), KeyGuess.NONE);
        DUE.is("one key: the number", x.poison(0, 0, 0), KeyGuess.NONE);
        DUE.is("one key: pieces", x.poison(0, 0, 1), KeyGuess.NONE);
        DUE.is("all but the last", x.poison(58, 59, 0), 59);
    }

    private static void poisonBad() {
        DUE.sentence("Promise 18: BAD: also a above b, or too far apart");
        KeyGuess x = Given.made(2, 0);
        DUE.is("poison(1, 0, 0)", x.poison(1, 0, 0), KeyGuess.BAD);
        DUE.is("poison(0, 41, 1)", x.poison(0, 41, 1), KeyGuess.BAD);
        DUE.is("poison(0, 1000000, 0)", x.poison(0, 1000000, 0), KeyGuess.BAD);
        DUE.is("poison(1000000, 0, 0)", x.poison(1000000, 0, 0), KeyGuess.BAD);
        DUE.is("poison(0, 40, -1)", x.poison(0, 40, -1), KeyGuess.BAD);
        DUE.is("poison(0, 40, 2)", x.poison(0, 40, 2), KeyGuess.BAD);
        DUE.is("poison(-1, 39, 0)", x.poison(-1, 39, 0), KeyGuess.BAD);
        DUE.is("poison(999961, 1000001, 0)", x.poison(999961, 1000001, 0), KeyGuess.BAD);
        DUE.is("poison(999960, 1000000, 0)", x.poison(999960, 1000000, 0), 999960);
        for (int out : Given.OUT) {
            DUE.is("poison(" + out + ", 0, 0)", x.poison(out, 0, 0), KeyGuess.BAD);
            DUE.is("poison(1000000, " + out + ", 0)", x.poison(1000000, out, 0), KeyGuess.BAD);
            DUE.is("poison(0, 0, " + out + ")", x.poison(0, 0, out), KeyGuess.BAD);
        }
        int least = Integer.MIN_VALUE;
        DUE.is("poison(MIN, MAX, 0)", x.poison(least, Integer.MAX_VALUE, 0), KeyGuess.BAD);
        DUE.is("poison(MAX, MIN, 0)", x.poison(Integer.MAX_VALUE, least, 0), KeyGuess.BAD);
    }

    private static void poisonFull() {
        DUE.sentence("Promise 18: FULL: 60 KEYS are there");
        KeyGuess x = Given.with(Given.line(59, 10));
        DUE.is("59 keys: the number", x.poison(590, 590, 0), 590);
        DUE.is("59 keys: pieces", x.poison(590, 590, 1), 1);
        x.put(590);
        DUE.is("60 keys: the number", x.poison(600, 600, 0), KeyGuess.FULL);
        DUE.is("60 keys: pieces", x.poison(600, 600, 1), KeyGuess.FULL);
        DUE.is("60 keys, and it is one", x.poison(590, 590, 0), KeyGuess.FULL);
        x.make();
        x.take(590);
        DUE.is("60 in the row, 59 there now", x.poison(590, 590, 0), 590);
    }

    private static void poisonWithout() {
        DUE.sentence("Promise 18: POISON, without KEYS");
        KeyGuess x = new KeyGuess();
        DUE.is("poison(0, 40, 0)", x.poison(0, 40, 0), 0);
        DUE.is("poison(0, 40, 1)", x.poison(0, 40, 1), 1);
        DUE.is("poison(1000000, 1000000, 0)", x.poison(1000000, 1000000, 0), 1000000);
        DUE.is("poison(1000000, 1000000, 1)", x.poison(1000000, 1000000, 1), 1);
    }

    private static void count() {
        DUE.sentence("Promise 19: 0 KEYS there now, .. 5 bits of THE FILTER that are set. BAD");
        KeyGuess x = Given.made(2, 0, 61, 122);
        x.put(5);
        x.put(6);
        x.take(61);
        // Bits 0; 0, 1; 0, 2; 5, 0; 6, 0.
        DUE.counts("one of each", x, 4, 3, 2, 1, 3, 5);
        for (int bad : new int[] {-1, 6, Integer.MIN_VALUE, Integer.MAX_VALUE}) {
            DUE.is("count(" + bad + ")", x.count(bad), KeyGuess.BAD);
            DUE.is("no keys: count(" + bad + ")", new KeyGuess().count(bad), KeyGuess.BAD);
        }
    }
}

/** What several tests begin with. */
final class Given {
    /** Numbers that no key may be. */
    static final int[] OUT = {Integer.MIN_VALUE, -1, 1000001, Integer.MAX_VALUE};

    private Given() { }

    /** An object whose row is made of these keys with slack e. */
    static KeyGuess made(int e, int... keys) {
        KeyGuess x = with(keys);
        x.slack(e);
        return x;
    }

    /** An object to which these keys came, one after the other. */
    static KeyGuess with(int... keys) {
        KeyGuess x = new KeyGuess();
        for (int key : keys) {
            x.put(key);
        }
        return x;
    }

    /** 0, step, 2 step, and so on: all in line. */
    static int[] line(int many, int step) {
        int[] keys = new int[many];
        for (int k = 0; k < many; k++) {
            keys[k] = step * k;
        }
        return keys;
    }

    /** 0, 1, 4, 9, and so on: no three of them are in line, nor three of every second. */
    static int[] squares(int many) {
        int[] keys = new int[many];
        for (int k = 0; k < many; k++) {
            keys[k] = k * k;
        }
        return keys;
    }

    /** 0, 10, .. 110 are the row; 0, 10, 20, 30 went since, and 5, 15, 25, 35 came. */
    static KeyGuess fourNewFourOld(int e) {
        KeyGuess x = made(e, line(12, 10));
        for (int k = 0; k < 4; k++) {
            x.take(10 * k);
            x.put(10 * k + 5);
        }
        return x;
    }

    /** 0, 10, and so on are the row; 1000 .. 1007 came since. */
    static KeyGuess eightNewOver(int many, int e) {
        KeyGuess x = made(e, line(many, 10));
        for (int k = 0; k < 8; k++) {
            x.put(1000 + k);
        }
        return x;
    }
}

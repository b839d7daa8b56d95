/** What several tests begin with. */
final class Given {
    /** Numbers that no key may be. */
    static final int[] OUT = {Integer.MIN_VALUE, -1, 1000001, Integer.MAX_VALUE};

    private Given() { }

    /** An object whose row is made of these keys with slack e. */
    static KeyGuess made(int e, int... keys) {
        KeyGuess x = with(keys);
        x.slack(e);
        return x;
    }

    /** An object to which these keys came, one after the other. */
    static KeyGuess with(int... keys) {
        KeyGuess x = new KeyGuess();
        for (int key : keys) {
            x.put(key);
        }
        return x;
    }
}

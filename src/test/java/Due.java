/** Compares answers with those that are due, and ends a test. */
final class Due {
    private String sentence = "";
    private int sentences;
    private int asked;
    private int askedOfSentence;
    private int wrong;

    /** What is asked from here on is asked because of these words of the document. */
    void sentence(String words) {
        endSentence();
        sentence = words;
        sentences++;
    }

    void is(String call, long got, long want) {
        asked++;
        askedOfSentence++;
        if (got != want) {
            wrong++;
            String why = sentence.isEmpty() ? "" : " (" + sentence + ")";
            System.out.println(call + " answered " + got + ", due is " + want + why);
        }
    }

    void holds(String what, boolean held) {
        is(what, held ? 1 : 0, 1);
    }

    /** The first answers of count: keys there now, of the row, NEW, OLD, cost, bits. */
    void counts(String when, KeyGuess x, int... due) {
        for (int what = 0; what < due.length; what++) {
            is(when + ": count(" + what + ")", x.count(what), due[what]);
        }
    }

    /** What a piece tells: i, j, first key, numerator, denominator. */
    void piece(String when, KeyGuess x, int level, int k, int... due) {
        for (int what = 0; what < due.length; what++) {
            String call = when + ": piece(" + level + ", " + k + ", " + what + ")";
            is(call, x.piece(level, k, what), due[what]);
        }
    }

    void end() {
        endSentence();
        String of = sentences == 0 ? "" : sentences + " sentences, ";
        System.out.println(of + asked + " answers, " + wrong + " not as due");
        if (wrong != 0 || asked == 0) {
            System.exit(1);
        }
    }

    private void endSentence() {
        if (!sentence.isEmpty() && askedOfSentence == 0) {
            wrong++;
            System.out.println("nothing was asked of: " + sentence);
        }
        askedOfSentence = 0;
    }
}

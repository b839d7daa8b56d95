import java.util.ArrayList;
import java.util.List;

/** What an object answers to questions that together show all of its state. */
final class State {
    private State() { }

    /** Changes the object at last, as only slack tells which slack it was. */
    static List<Long> of(KeyGuess x) {
        List<Long> answers = new ArrayList<>();
        for (int what = 0; what <= 5; what++) {
            answers.add((long) x.count(what));
        }
        for (int place = 0; place < x.count(0); place++) {
            answers.add((long) x.at(place));
        }
        addPieces(x, answers);
        for (int number = 0; number <= 120; number += 5) {
            answers.add((long) x.find(number));
            answers.add((long) x.looks(number));
            answers.add((long) x.maybe(number));
        }
        answers.add((long) x.wrong(0, 2000));
        answers.add((long) x.poison(0, 40, 0));
        answers.add((long) x.poison(0, 40, 1));
        answers.add((long) x.slack(0));
        answers.add((long) x.count(4));
        addPieces(x, answers);
        return answers;
    }

    private static void addPieces(KeyGuess x, List<Long> answers) {
        answers.add((long) x.levels());
        for (int level = 0; level < x.levels(); level++) {
            for (int k = 0; k < x.pieces(level); k++) {
                for (int what = 0; what <= 4; what++) {
                    answers.add((long) x.piece(level, k, what));
                }
            }
        }
    }
}

import java.util.ArrayList;
import java.util.List;
import java.util.function.Supplier;
import java.util.function.ToIntFunction;

/**
 * All that can be asked of objects that are made alike. A new one is made for every few hundred
 * questions, as no more than 512 calls of one object are promised.
 */
final class Answers {
    private static final int QUESTIONS_OF_ONE = 250;
    private static final int SLOTS = 40;

    private final List<String> names = new ArrayList<>();
    private final List<ToIntFunction<ReadingCircles>> questions = new ArrayList<>();
    private final Supplier<ReadingCircles> made;

    private Answers(Supplier<ReadingCircles> made) {
        this.made = made;
        ReadingCircles x = made.get();
        ofCounts(x.count(0), x.count(1), x.count(2));
        ofPairs(x.count(0), x.count(1), x.count(2));
        for (int i = 0; i < 16; i++) {
            int at = i;
            ask("trace(" + at + ")", y -> y.trace(at));
        }
        ask("status()", ReadingCircles::status);
    }

    /** Asks that two ways to make an object lead to the same answers; the status is not asked. */
    static void same(String call, Supplier<ReadingCircles> without, Supplier<ReadingCircles> with) {
        compare(call, without, with, 1);
    }

    /** As same, but for the status too. */
    static void sameWithStatus(String call, Supplier<ReadingCircles> without, Supplier<ReadingCircles> with) {
        compare(call, without, with, 0);
    }

    private static void compare(String call, Supplier<ReadingCircles> without, Supplier<ReadingCircles> with, int leftOut) {
        Answers due = new Answers(without);
        Answers got = new Answers(with);
        Due.is(call + " leaves as many questions", got.questions.size(), due.questions.size());
        int[] wanted = due.all();
        int[] answered = got.all();
        int changed = 0;
        for (int i = 0; i < wanted.length - leftOut && i < answered.length; i++) {
            if (wanted[i] != answered[i]) {
                changed++;
                Due.is(call + " leaves " + due.names.get(i), answered[i], wanted[i]);
            }
        }
        Due.is(call + ": answers that it changed", changed, 0);
    }

    private int[] all() {
        int[] answers = new int[questions.size()];
        ReadingCircles x = null;
        for (int i = 0; i < answers.length; i++) {
            if (i % QUESTIONS_OF_ONE == 0) {
                x = made.get();
            }
            answers[i] = questions.get(i).applyAsInt(x);
        }
        return answers;
    }

    private void ask(String name, ToIntFunction<ReadingCircles> question) {
        names.add(name);
        questions.add(question);
    }

    private void ofCounts(int members, int circles, int letters) {
        for (int i = 0; i < 4; i++) {
            int what = i;
            ask("count(" + what + ")", y -> y.count(what));
            for (int c = 0; c < circles; c++) {
                int circle = c;
                ask("circleTold(" + circle + ", " + what + ")", y -> y.circleTold(circle, what));
            }
        }
        for (int l = 0; l < letters; l++) {
            int letter = l;
            ask("past(" + letter + ")", y -> y.past(letter));
            for (int i = 0; i < 8; i++) {
                int what = i;
                ask("told(" + letter + ", " + what + ")", y -> y.told(letter, what));
            }
        }
        for (int m = 0; m < members; m++) {
            int member = m;
            ask("late(" + member + ")", y -> y.late(member));
            for (int i = 0; i < SLOTS; i++) {
                int slot = i;
                ask("slot(" + member + ", " + slot + ")", y -> y.slot(member, slot));
            }
        }
    }

    private void ofPairs(int members, int circles, int letters) {
        for (int m = 0; m < members; m++) {
            int member = m;
            for (int l = 0; l < letters; l++) {
                int letter = l;
                ask("state(" + member + ", " + letter + ")", y -> y.state(member, letter));
                ask("read(" + member + ", " + letter + ")", y -> y.read(member, letter));
                for (int i = 0; i < 3; i++) {
                    int what = i;
                    ask("why(" + member + ", " + letter + ", " + what + ")", y -> y.why(member, letter, what));
                }
            }
            for (int i = 0; i < circles * members; i++) {
                int circle = i / members;
                int writer = i % members;
                ask("given(" + member + ", " + circle + ", " + writer + ")", y -> y.given(member, circle, writer));
            }
        }
        for (int i = 0; i < letters * letters; i++) {
            int a = i / letters;
            int b = i % letters;
            ask("behind(" + a + ", " + b + ")", y -> y.behind(a, b));
            ask("chain(" + a + ", " + b + ")", y -> y.chain(a, b));
        }
    }
}

/** Boundary cases of promises 20 and 21: acts of letters, numbers that wrap, and the trace. */
final class ActCases {
    private static final int LOW = Start.LOW;
    private static final int HIGH = Start.HIGH;
    /** Twice this, and thrice, are past the last number. */
    private static final int HALF = 1 << 30;
    private static final int AGE = 0;
    private static final int BEAR = 1;
    private static final int GIVE = 2;
    private static final int WAIT = 3;

    /** By kinds, then by acts: which bodies run, in the order in which they begin. */
    private static final int[][][] BODIES = {
        {{10}, {11}, {12, 10, 11}, {13, 12, 10, 11}},
        {{20, 10}, {11}, {12, 20, 10, 11}, {21, 13, 12, 20, 10, 11}},
        {{20, 10}, {30, 11}, {31, 12, 20, 10, 30, 11}, {21, 13, 31, 12, 20, 10, 30, 11}},
        {{40, 10}, {11}, {12, 40, 10, 11}, {13, 12, 40, 10, 11}},
        {{40, 10}, {11}, {50, 12, 40, 10, 11}, {13, 50, 12, 40, 10, 11}},
        {{40, 10}, {60, 11, 40, 10}, {50, 12, 40, 10, 60, 11, 40, 10},
            {61, 13, 50, 12, 40, 10, 60, 11, 40, 10, 60, 11, 40, 10}},
    };

    private ActCases() {
    }

    private static void wraps(int letter, int act, int x, int want) {
        ReadingCircles object = Start.withAllKinds();
        Due.done("act(" + letter + ", " + act + ", " + x + ")", object, object.act(letter, act, x), want);
    }

    @Case("Terms, numbers wrap: NOTE's age, x + q")
    static void noteAge() {
        wraps(0, AGE, HIGH, LOW);
        wraps(0, AGE, -1, 0);
    }

    @Case("Terms, numbers wrap: NOTE's bear, x * 3 + k")
    static void noteBear() {
        wraps(0, BEAR, HALF, -HALF + 3);
        wraps(0, BEAR, LOW, LOW + 3);
        wraps(0, BEAR, HIGH, LOW);
    }

    @Case("Terms, numbers wrap: NOTE's give, age(x) + bear(x)")
    static void noteGive() {
        wraps(0, GIVE, HIGH, 0);
        wraps(0, GIVE, HALF, 4);
    }

    @Case("Terms, numbers wrap: NOTE's wait, give(x + 1) - x")
    static void noteWait() {
        wraps(0, WAIT, HIGH, LOW + 5);
    }

    @Case("Terms, numbers wrap: REPLY's age, super.age(x) * 2 + a")
    static void replyAge() {
        wraps(1, AGE, HALF, LOW + 4);
        wraps(1, AGE, HIGH, 2);
    }

    @Case("Terms, numbers wrap: REPLY's wait, super.wait(x) ^ 5, of a number below 0 too")
    static void replyWait() {
        wraps(1, WAIT, HIGH, 8 ^ 5);
        wraps(1, WAIT, -10, (2 * (-9 + 2) + 3 * -9 + 3 + 10) ^ 5);
    }

    @Case("Terms, numbers wrap: SEALED's bear, super.bear(x + 1) - n")
    static void sealedBear() {
        wraps(2, BEAR, HIGH, LOW + 3);
    }

    @Case("Terms, numbers wrap: SEALED's give, super.give(x) + n * 7")
    static void sealedGive() {
        ReadingCircles x = Start.of(2, 3);
        x.seal(0, 0, -1);
        x.seal(0, 0, -1);
        Due.is("told(2, 5)", x.told(2, 5), 1);
        int age = LOW + (2 + 1) * 2;
        int bear = (HALF + 1) * 3 + 2;
        Due.done("n is 1", x, x.act(2, GIVE, HALF), age - 1 + bear - 1 + 7);
    }

    @Case("Terms, numbers wrap: ORDER's age, super.age(x - 1) + a")
    static void orderAge() {
        wraps(3, AGE, LOW, LOW + 5);
        wraps(3, AGE, HIGH, LOW + 4);
    }

    @Case("Terms, numbers wrap: VIEW's give, super.give(x * 2) + 1")
    static void viewGive() {
        wraps(4, GIVE, HALF, 7);
        wraps(4, GIVE, HIGH, -1);
    }

    @Case("Terms, numbers wrap: FLUSH's bear, super.bear(x) * 2 + super.age(x)")
    static void flushBear() {
        wraps(5, BEAR, HALF, -HALF + 10);
        wraps(5, BEAR, LOW, LOW + 10);
    }

    @Case("Terms, numbers wrap: FLUSH's wait, super.wait(x + 2) + bear(x)")
    static void flushWait() {
        wraps(5, WAIT, HIGH, 49);
    }

    @Case("Terms, n is -1: a SEALED one that has no NUMBER yet")
    static void sealedWithoutNumber() {
        ReadingCircles x = Start.of(2, 3);
        x.seal(1, 0, -1);
        Due.done("bear", x, x.act(0, BEAR, 10), 11 * 3 + 2 + 1);
        Due.done("give", x, x.act(0, GIVE, 10), (10 + 1) * 2 - 1 + 36 - 7);
        x.deliver(0, 0);
        Due.done("bear with number 0", x, x.act(0, BEAR, 10), 11 * 3 + 2);
        Due.done("give with number 0", x, x.act(0, GIVE, 10), (10 + 1) * 2 - 1 + 35);
    }

    @Case("Terms, a is -1: one that answers none")
    static void actWithoutAnswer() {
        ReadingCircles x = Start.of(2, 3);
        x.seal(1, 0, -1);
        x.write(1, 0, 4);
        Due.done("SEALED's age", x, x.act(0, AGE, 10), (10 + 1) * 2 - 1);
        Due.done("VIEW's age", x, x.act(1, AGE, 10), 10 - 1 + 2 - 1);
    }

    @Case("Terms, a: the LETTER that it answers or names")
    static void actWithAnswer() {
        ReadingCircles x = Start.of(2, 3);
        for (int i = 0; i < 5; i++) {
            x.write(0, 0, 0);
        }
        x.reply(0, 0, 4);
        x.seal(0, 0, 3);
        Due.done("REPLY's age", x, x.act(5, AGE, 10), (10 + 6) * 2 + 4);
        Due.done("SEALED's age", x, x.act(6, AGE, 10), (10 + 7) * 2 + 3);
        Due.done("ORDER's age", x, x.act(7, AGE, 10), 10 - 1 + 8 + 6);
    }

    @Case("Terms, k: how many counts its CLOCK has, an ORDER's as its SEALED one's")
    static void actWithCounts() {
        ReadingCircles x = Start.of(3, 7, 3, 3, 6);
        x.seal(2, 0, -1);
        x.write(1, 0, 0);
        x.deliver(0, 0);
        Due.done("NOTE's bear", x, x.act(1, BEAR, 0), 3 + 2 + 2 + 2);
        Due.is("the Order", x.told(2, 4), 0);
        Due.done("ORDER's bear", x, x.act(2, BEAR, 0), 3 + 2);
    }

    @Case("Promise 20, what it answers may be -1, and is done")
    static void actAnswersMinusOne() {
        wraps(0, AGE, -2, -1);
    }

    @Case("Promise 20, STATUS 1: no such LETTER")
    static void actOfNone() {
        ReadingCircles x = Start.of(2, 3);
        Due.refused("act(0, 0, 0) before any", x, x.act(0, AGE, 0), 1);
        x.write(0, 0, 0);
        for (int wrong : new int[] {-1, 1, 200, LOW, HIGH}) {
            Due.refused("act(" + wrong + ", 0, 0)", x, x.act(wrong, AGE, 0), 1);
        }
    }

    @Case("Promise 20, STATUS 1: no such ACT; the first is 0, the last is 3")
    static void actOfAnother() {
        ReadingCircles x = Start.withAllKinds();
        for (int wrong : new int[] {-1, 4, 5, LOW, HIGH}) {
            for (int letter = 0; letter < 6; letter++) {
                Due.refused("act(" + letter + ", " + wrong + ", 0)", x, x.act(letter, wrong, 0), 1);
            }
        }
        Due.done("act(0, 0, 0)", x, x.act(0, AGE, 0), 1);
        Due.done("act(0, 3, 0)", x, x.act(0, WAIT, 0), 2 + 6);
    }

    @Case("Promise 20, STATUS 1: a refused ACT leaves THE TRACE")
    static void refusedActLeavesTrace() {
        ReadingCircles x = Start.withAllKinds();
        x.act(1, AGE, 0);
        x.act(6, AGE, 0);
        x.act(0, 4, 0);
        x.act(0, -1, 0);
        Due.is("count(3)", x.count(3), 2);
        Due.row("trace(i)", x::trace, 20, 10, -1);
    }

    @Case("Promise 20, an ACT is the KIND's own body, or of the next KIND above that has one; super from the KIND above on")
    static void bodiesOfKinds() {
        ReadingCircles x = Start.withAllKinds();
        for (int kind = 0; kind < 6; kind++) {
            for (int act = 0; act < 4; act++) {
                x.act(kind, act, 1);
                Due.is("kind " + kind + ", act " + act + ": count(3)", x.count(3), BODIES[kind][act].length);
                Due.row("kind " + kind + ", act " + act + ": trace(i)", x::trace, BODIES[kind][act]);
            }
        }
    }

    @Case("Promise 21, -1: none such, before the first act")
    static void traceOfNone() {
        ReadingCircles x = Start.withAllKinds();
        Due.row("trace(i)", x::trace, -1, -1);
        Due.is("trace(-1)", x.trace(-1), -1);
    }

    @Case("Promise 21, -1: none such, past the last body and below 0")
    static void tracePastTheLast() {
        ReadingCircles x = Start.withAllKinds();
        x.act(5, WAIT, 0);
        Due.is("trace(13)", x.trace(13), 10);
        for (int wrong : new int[] {-1, 14, 59, 60, 61, LOW, HIGH}) {
            Due.is("trace(" + wrong + ")", x.trace(wrong), -1);
        }
    }

    @Case("Promise 21, THE TRACE is of the latest act: nothing of a longer one before is left")
    static void traceOfTheLatest() {
        ReadingCircles x = Start.withAllKinds();
        x.act(5, WAIT, 0);
        x.act(1, AGE, 0);
        Due.row("trace(i)", x::trace, 20, 10, -1, -1, -1, -1, -1, -1, -1, -1, -1, -1, -1, -1);
    }

    @Case("Promise 21, THE TRACE is of the latest act: all other calls leave it")
    static void traceLeftByOthers() {
        ReadingCircles x = Start.withAllKinds();
        x.act(1, AGE, 0);
        x.member();
        x.circle(3);
        x.write(0, 0, 5);
        x.reply(0, 0, 0);
        x.seal(0, 0, -1);
        x.deliver(0, 1);
        x.deliverAll(0, 0);
        x.bare(0, 0, 0);
        x.forge(0, 0, 1, 0);
        Due.is("count(3)", x.count(3), 2);
        Due.row("trace(i)", x::trace, 20, 10, -1);
    }

    /** No letter's act has more than 14 bodies, so that only the trace itself can be filled. */
    private static ReadingCircles.Trace traceOfHundred() {
        ReadingCircles.Trace trace = new ReadingCircles.Trace();
        for (int i = 0; i < 100; i++) {
            trace.begin(1000 + i);
        }
        return trace;
    }

    @Case("Terms, THE TRACE: the first 60 are kept")
    static void traceKeepsSixty() {
        ReadingCircles.Trace trace = traceOfHundred();
        for (int i = 0; i < 60; i++) {
            Due.is("bodyAt(" + i + ")", trace.bodyAt(i), 1000 + i);
        }
    }

    @Case("Promise 21, -1: none such, those past the first 60")
    static void traceKeepsNoMore() {
        ReadingCircles.Trace trace = traceOfHundred();
        for (int i = 60; i < 101; i++) {
            Due.is("bodyAt(" + i + ")", trace.bodyAt(i), -1);
        }
    }

    @Case("Promise 9, THE TRACE's bodies, also those past 60")
    static void traceCountsAll() {
        ReadingCircles.Trace trace = new ReadingCircles.Trace();
        for (int i = 0; i < 100; i++) {
            trace.begin(10);
            Due.is("begunCount()", trace.begunCount(), i + 1);
        }
    }
}

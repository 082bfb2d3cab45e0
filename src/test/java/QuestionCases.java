import java.util.function.IntUnaryOperator;

/** Boundary cases of promises 9 to 16: counts, what is told of letters and circles, states, why. */
final class QuestionCases {
    private static final int LOW = Start.LOW;
    private static final int HIGH = Start.HIGH;

    private QuestionCases() {
    }

    private static void noneSuch(String call, IntUnaryOperator asked, int... wrong) {
        for (int value : wrong) {
            Due.is(call + " with " + value, asked.applyAsInt(value), -1);
        }
    }

    @Case("Promise 9, MEMBERS, CIRCLES, LETTERS: what was refused is not counted")
    static void countWithoutRefused() {
        ReadingCircles x = Start.of(2, 3);
        x.circle(1);
        x.write(0, 1, 0);
        x.seal(0, 0, -1);
        Due.row("count(i)", x::count, 2, 1, 2, 0);
    }

    @Case("Promise 9, MEMBERS, CIRCLES, LETTERS: as many as there can be")
    static void countOfTheMost() {
        ReadingCircles x = Start.of(9, 255, 3, 3, 3, 3, 3, 3);
        for (int i = 0; i < 101; i++) {
            x.seal(0, i % 6, -1);
        }
        Due.row("count(i)", x::count, 8, 6, 200);
    }

    @Case("Promise 9, THE TRACE's bodies: none before the first act, then those of the latest")
    static void countOfTrace() {
        ReadingCircles x = Start.withAllKinds();
        Due.is("before", x.count(3), 0);
        x.act(5, 3, 0);
        Due.is("of Flush's wait", x.count(3), 14);
        x.act(0, 0, 0);
        Due.is("of Note's age", x.count(3), 1);
    }

    @Case("Promise 9, -1: another")
    static void countOfAnother() {
        ReadingCircles x = Start.withAllKinds();
        noneSuch("count", x::count, -1, 4, 5, LOW, HIGH);
    }

    @Case("Promise 10, all that is told, of the first and the last LETTER")
    static void toldOfLetters() {
        ReadingCircles x = Start.of(4, 3, 14);
        x.write(0, 0, 5);
        x.deliver(0, 1);
        x.seal(1, 1, 0);
        Due.row("told(0, i)", what -> x.told(0, what), 5, 0, 0, 1, -1, -1, 2, 0, -1);
        Due.row("told(1, i)", what -> x.told(1, what), 2, 1, 1, 1, 0, 0, 5, 0, -1);
        Due.row("told(2, i)", what -> x.told(2, what), 3, 1, 1, 2, 1, -1, 5, 0, -1);
    }

    @Case("Promise 10, what it answers or names: -1 of those that answer none")
    static void toldOfNoAnswer() {
        ReadingCircles x = Start.of(2, 3);
        x.write(0, 0, 0);
        x.write(0, 0, 4);
        x.write(0, 0, 5);
        x.seal(1, 0, -1);
        Due.row("told(i, 4)", l -> x.told(l, 4), -1, -1, -1, -1);
    }

    @Case("Promise 10, its NUMBER: -1 till the ELDEST GIVES it")
    static void toldOfNumber() {
        ReadingCircles x = Start.of(2, 3);
        x.seal(1, 0, -1);
        Due.is("told(0, 5)", x.told(0, 5), -1);
        x.deliver(0, 0);
        Due.is("told(0, 5)", x.told(0, 5), 0);
        Due.is("its Order has none", x.told(1, 5), -1);
    }

    @Case("Promise 10, how many counts: as few and as many as a CLOCK can have")
    static void toldOfCounts() {
        ReadingCircles x = Start.of(8, 3);
        x.write(0, 0, 0);
        Due.is("of one circle of two", x.told(0, 6), 2);
        ReadingCircles y = Start.of(8, 255, 255, 255, 255, 255, 255);
        y.write(7, 0, 0);
        y.write(7, 0, 0);
        Due.is("of six circles of eight", y.told(1, 6), 48);
        Due.is("saved", y.told(1, 7), 47);
    }

    @Case("Promise 10, SAVED of an ORDER: 0")
    static void toldOfOrder() {
        ReadingCircles x = Start.of(2, 3);
        x.seal(0, 0, -1);
        x.seal(0, 0, -1);
        Due.is("told(3, 0)", x.told(3, 0), 3);
        Due.is("told(3, 7)", x.told(3, 7), 0);
    }

    @Case("Promise 10, -1 also: no such")
    static void toldOfNone() {
        ReadingCircles x = Start.of(2, 3);
        Due.is("told(0, 0) before any", x.told(0, 0), -1);
        x.write(0, 0, 0);
        for (int what = 0; what < 8; what++) {
            int asked = what;
            noneSuch("told(.., " + what + ")", l -> x.told(l, asked), -1, 1, 200, LOW, HIGH);
        }
        noneSuch("told(0, ..)", what -> x.told(0, what), -1, 8, LOW, HIGH);
    }

    @Case("Promise 11, its MEMBERS' bits, of two and of all")
    static void circleToldBits() {
        ReadingCircles x = Start.of(8, 192, 255);
        Due.is("circleTold(0, 0)", x.circleTold(0, 0), 192);
        Due.is("circleTold(1, 0)", x.circleTold(1, 0), 255);
    }

    @Case("Promise 11, how many NUMBERS it gave: none while the ELDEST has GIVEN no SEALED one")
    static void circleToldNumbers() {
        ReadingCircles x = Start.of(3, 7, 7);
        x.write(0, 0, 0);
        x.seal(1, 0, -1);
        Due.is("before", x.circleTold(0, 2), 0);
        x.deliver(1, 0);
        Due.is("behind", x.circleTold(0, 2), 1);
        Due.is("another circle", x.circleTold(1, 2), 0);
        x.deliverAll(0, 0);
        Due.is("others' giving gives none", x.circleTold(0, 2), 1);
    }

    @Case("Promise 11, CALM: a CIRCLE without LETTERS, whatever others have")
    static void calmWithoutLetters() {
        ReadingCircles x = Start.of(2, 3, 3);
        x.write(0, 0, 0);
        Due.is("circleTold(1, 3)", x.circleTold(1, 3), 1);
        Due.is("circleTold(0, 3)", x.circleTold(0, 3), 0);
    }

    @Case("Promise 11, CALM: not while one is on THE LINE to one MEMBER")
    static void calmTillDelivered() {
        ReadingCircles x = Start.of(3, 7);
        x.write(0, 0, 0);
        x.deliver(0, 1);
        Due.is("before", x.circleTold(0, 3), 0);
        x.deliver(0, 2);
        Due.is("behind", x.circleTold(0, 3), 1);
    }

    @Case("Promise 11, CALM: not while one is HELD by one MEMBER")
    static void calmTillGiven() {
        ReadingCircles x = Start.of(2, 3, 3);
        x.write(0, 1, 0);
        x.write(0, 0, 0);
        x.deliver(1, 1);
        Due.is("before", x.circleTold(0, 3), 0);
        x.deliver(0, 1);
        Due.is("behind", x.circleTold(0, 3), 1);
    }

    @Case("Promise 11, CALM: not while an ORDER is not GIVEN by all")
    static void calmTillOrder() {
        ReadingCircles x = Start.of(2, 3);
        x.seal(0, 0, -1);
        x.deliver(0, 1);
        Due.is("before", x.circleTold(0, 3), 0);
        x.deliver(1, 1);
        Due.is("behind", x.circleTold(0, 3), 1);
    }

    @Case("Promise 11, -1: no such")
    static void circleToldOfNone() {
        ReadingCircles x = Start.of(2, 3);
        for (int what = 0; what < 4; what++) {
            int asked = what;
            noneSuch("circleTold(.., " + what + ")", c -> x.circleTold(c, asked), -1, 1, 6, LOW, HIGH);
        }
        noneSuch("circleTold(0, ..)", what -> x.circleTold(0, what), -1, 4, LOW, HIGH);
    }

    @Case("Promise 12, how a LETTER stands: 0, 1, 2, 3")
    static void states() {
        ReadingCircles x = Start.of(4, 7);
        x.write(0, 0, 0);
        x.write(0, 0, 0);
        x.deliver(1, 1);
        Due.is("nothing to do with it", x.state(3, 1), 0);
        Due.is("on the line", x.state(2, 1), 1);
        Due.is("held", x.state(1, 1), 2);
        Due.is("given", x.state(0, 1), 3);
        x.deliver(0, 1);
        Due.is("given now", x.state(1, 1), 3);
    }

    @Case("Promise 12, -1: no such")
    static void stateOfNone() {
        ReadingCircles x = Start.of(3, 3);
        Due.is("state(0, 0) before any", x.state(0, 0), -1);
        x.write(0, 0, 0);
        noneSuch("state(.., 0)", m -> x.state(m, 0), -1, 3, 8, LOW, HIGH);
        noneSuch("state(0, ..)", l -> x.state(0, l), -1, 1, 200, LOW, HIGH);
        Due.is("outside, no such letter", x.state(2, 1), -1);
    }

    @Case("Promise 13, MEMBERS may be outside the CIRCLE: 0")
    static void givenOfOutsiders() {
        ReadingCircles x = Start.of(3, 3, 6);
        x.write(0, 0, 0);
        x.deliver(0, 1);
        Due.is("r is outside", x.given(2, 0, 0), 0);
        Due.is("w is outside", x.given(0, 0, 2), 0);
        Due.is("both are", x.given(2, 0, 2), 0);
        Due.is("none is", x.given(1, 0, 0), 1);
    }

    @Case("Promise 13, what is HELD or on THE LINE is not counted, its own neither")
    static void givenWithoutHeld() {
        ReadingCircles x = Start.of(3, 7);
        x.seal(1, 0, -1);
        x.write(1, 0, 0);
        x.deliver(1, 2);
        Due.is("its own", x.given(1, 0, 1), 0);
        Due.is("held", x.given(2, 0, 1), 0);
        Due.is("on the line", x.given(0, 0, 1), 0);
    }

    @Case("Promise 13, by CIRCLE and by writer of their own, ORDERS are counted")
    static void givenApart() {
        ReadingCircles x = Start.of(2, 3, 3);
        x.seal(0, 0, -1);
        x.write(0, 1, 0);
        x.write(1, 1, 0);
        Due.is("the Sealed one and its Order", x.given(0, 0, 0), 2);
        Due.is("another circle", x.given(0, 1, 0), 1);
        Due.is("another writer", x.given(0, 1, 1), 0);
        x.deliver(3, 0);
        Due.is("another writer", x.given(0, 1, 1), 1);
    }

    @Case("Promise 13, as many as there can be: 200")
    static void givenOfTheMost() {
        ReadingCircles x = Start.of(2, 3);
        for (int i = 0; i < 100; i++) {
            x.seal(0, 0, -1);
        }
        Due.is("given(0, 0, 0)", x.given(0, 0, 0), 200);
    }

    @Case("Promise 13, -1: no such")
    static void givenOfNone() {
        ReadingCircles x = Start.of(2, 3);
        noneSuch("given(.., 0, 0)", r -> x.given(r, 0, 0), -1, 2, 8, LOW, HIGH);
        noneSuch("given(0, .., 0)", c -> x.given(0, c, 0), -1, 1, 6, LOW, HIGH);
        noneSuch("given(0, 0, ..)", w -> x.given(0, 0, w), -1, 2, 8, LOW, HIGH);
    }

    @Case("Promise 14, from 0, in the order in which it GAVE them")
    static void readInOrder() {
        ReadingCircles x = Start.of(2, 3);
        x.write(1, 0, 0);
        x.write(0, 0, 0);
        x.deliver(0, 0);
        Due.row("read(0, i)", i -> x.read(0, i), 1, 0, -1);
    }

    @Case("Promise 14, what is HELD is not read, its own neither")
    static void readWithoutHeld() {
        ReadingCircles x = Start.of(2, 3);
        x.seal(1, 0, -1);
        Due.is("read(1, 0)", x.read(1, 0), -1);
    }

    @Case("Promise 14, as many as there can be: the 200th is the last")
    static void readOfTheMost() {
        ReadingCircles x = Start.of(2, 3);
        for (int i = 0; i < 100; i++) {
            x.seal(0, 0, -1);
        }
        Due.is("read(0, 199)", x.read(0, 199), 199);
        Due.is("read(0, 200)", x.read(0, 200), -1);
    }

    @Case("Promise 14, -1: none such")
    static void readOfNone() {
        ReadingCircles x = Start.of(2, 3);
        Due.is("read(0, 0) before any", x.read(0, 0), -1);
        x.write(0, 0, 0);
        noneSuch("read(0, ..)", i -> x.read(0, i), -1, 1, 199, 200, LOW, HIGH);
        noneSuch("read(.., 0)", m -> x.read(m, 0), -1, 1, 2, 8, LOW, HIGH);
    }

    private static void why(String what, ReadingCircles x, int member, int letter, int... want) {
        Due.row(what + ": why(" + member + ", " + letter + ", i)", i -> x.why(member, letter, i), want);
    }

    @Case("Promise 15, by MEMBERS by number: the first that lacks, not the one that lacks most")
    static void whyByMembers() {
        ReadingCircles x = Start.of(5, 31);
        x.write(1, 0, 0);
        x.write(2, 0, 0);
        x.write(2, 0, 0);
        for (int letter = 0; letter < 3; letter++) {
            x.deliver(letter, 3);
        }
        x.write(3, 0, 0);
        x.deliver(3, 4);
        why("both lack", x, 4, 3, 0, 1, 1);
        x.deliver(0, 4);
        why("one lacks", x, 4, 3, 0, 2, 2);
        x.deliver(1, 4);
        why("one lacks one", x, 4, 3, 0, 2, 1);
        Due.is("till none does", x.deliver(2, 4), 2);
    }

    @Case("Promise 15, by CIRCLES by number before MEMBERS, the LETTER's own in its place")
    static void whyByCircles() {
        ReadingCircles x = Start.of(3, 7, 7, 7);
        x.write(0, 2, 0);
        x.write(1, 0, 0);
        x.deliver(0, 1);
        x.write(1, 1, 0);
        x.write(1, 1, 0);
        x.deliver(3, 2);
        why("circle 0", x, 2, 3, 0, 1, 1);
        x.deliver(1, 2);
        why("then circle 1", x, 2, 3, 1, 1, 1);
        x.deliver(2, 2);
        why("then circle 2 of letter 2, of 3 the serial before", x, 2, 3, 1, 1, 1);
        why("then circle 2", x, 2, 2, 2, 0, 1);
    }

    @Case("Promise 15, CIRCLES that have a ROW and that it is in: others are passed over")
    static void whyPassesCirclesOver() {
        ReadingCircles x = Start.of(3, 3, 6, 7);
        x.write(0, 0, 0);
        x.deliver(0, 1);
        x.write(0, 2, 0);
        x.deliver(1, 1);
        x.write(1, 1, 0);
        x.deliver(2, 2);
        why("not circle 0", x, 2, 2, 2, 0, 1);
    }

    @Case("Promise 15, how many GIVEN lack of the writer to its own CIRCLE: to SERIAL - 1, not to the CLOCK's count")
    static void whyOfSerial() {
        ReadingCircles x = Start.of(3, 7);
        x.seal(1, 0, -1);
        x.write(1, 0, 0);
        x.write(1, 0, 0);
        x.deliver(2, 2);
        why("two lack, the clock has none", x, 2, 2, 0, 1, 2);
        x.deliver(1, 2);
        why("one lacks", x, 2, 1, 0, 1, 1);
    }

    @Case("Promise 15, an ORDER's writer is the ELDEST: of it to SERIAL - 1, of the SEALED one's writer to the CLOCK's count")
    static void whyOfOrder() {
        ReadingCircles x = Start.of(3, 7);
        x.write(0, 0, 0);
        x.write(1, 0, 0);
        x.seal(1, 0, -1);
        x.deliver(1, 0);
        x.deliver(2, 0);
        Due.is("the Order", x.told(3, 4), 2);
        x.deliver(3, 2);
        why("the eldest's", x, 2, 3, 0, 0, 1);
        x.deliver(0, 2);
        why("the writer's", x, 2, 3, 0, 1, 1);
        Due.is("that comes", x.deliver(1, 2), 2);
    }

    @Case("Promise 15, how many GIVEN lack of the writer to another CIRCLE: to the CLOCK's count")
    static void whyOfWriterElsewhere() {
        ReadingCircles x = Start.of(2, 3, 3);
        x.write(0, 1, 0);
        x.write(0, 1, 0);
        x.write(0, 0, 0);
        x.deliver(2, 1);
        why("two lack", x, 1, 2, 1, 0, 2);
    }

    @Case("Promise 15, if no count lacks: -2, -2, and 0 if the ORDER lacks")
    static void whyOfOrderThatLacks() {
        ReadingCircles x = Start.of(3, 7);
        x.seal(1, 0, -1);
        why("its writer", x, 1, 0, -2, -2, 0);
        x.deliver(0, 2);
        why("another", x, 2, 0, -2, -2, 0);
        x.deliver(0, 0);
        why("the Order is on the line", x, 2, 0, -2, -2, 0);
    }

    @Case("Promise 15, if no count lacks: -2, -2, and 1 if one with a lower NUMBER does")
    static void whyOfLowerNumber() {
        ReadingCircles x = Start.of(4, 15);
        x.seal(1, 0, -1);
        x.seal(2, 0, -1);
        x.deliver(0, 0);
        x.deliver(1, 0);
        x.deliver(1, 3);
        why("both lack", x, 3, 1, -2, -2, 0);
        x.deliver(2, 3);
        x.deliver(3, 3);
        why("the lower number lacks", x, 3, 1, -2, -2, 1);
    }

    @Case("Promise 15, a count that lacks comes before the ORDER")
    static void whyOfCountBeforeOrder() {
        ReadingCircles x = Start.of(3, 7);
        x.write(1, 0, 0);
        x.seal(1, 0, -1);
        x.deliver(1, 2);
        why("Sealed", x, 2, 1, 0, 1, 1);
    }

    @Case("Promise 15, -1: not HELD")
    static void whyOfNotHeld() {
        ReadingCircles x = Start.of(4, 7);
        x.write(0, 0, 0);
        x.deliver(0, 1);
        why("given by its writer", x, 0, 0, -1, -1, -1);
        why("given", x, 1, 0, -1, -1, -1);
        why("on the line", x, 2, 0, -1, -1, -1);
        why("outside", x, 3, 0, -1, -1, -1);
    }

    @Case("Promise 15, -1: no such")
    static void whyOfNone() {
        ReadingCircles x = Start.of(2, 3);
        x.seal(1, 0, -1);
        for (int what = 0; what < 3; what++) {
            int asked = what;
            noneSuch("why(.., 0, " + what + ")", m -> x.why(m, 0, asked), -1, 2, 8, LOW, HIGH);
            noneSuch("why(1, .., " + what + ")", l -> x.why(1, l, asked), -1, 1, 200, LOW, HIGH);
        }
        noneSuch("why(1, 0, ..)", what -> x.why(1, 0, what), -1, 3, LOW, HIGH);
        x.write(1, 0, 0);
        noneSuch("why(1, 1, ..) where a count lacks", what -> x.why(1, 1, what), -1, 3, LOW, HIGH);
    }

    @Case("Promise 16, none, and as many as there can be")
    static void lateOfTheMost() {
        ReadingCircles x = Start.of(8, 255, 192);
        Due.is("none", x.late(7), 0);
        for (int i = 0; i < 100; i++) {
            x.seal(0, 0, -1);
        }
        Due.is("late(7)", x.late(7), 200);
        Due.is("late(0)", x.late(0), 0);
    }

    @Case("Promise 16, of all its CIRCLES, and of no other")
    static void lateOfItsCircles() {
        ReadingCircles x = Start.of(3, 3, 6);
        x.write(0, 0, 0);
        x.write(2, 1, 0);
        Due.row("late(i)", x::late, 0, 2, 0);
    }

    @Case("Promise 16, what is HELD or GIVEN is on THE LINE no more")
    static void lateWithoutHeld() {
        ReadingCircles x = Start.of(2, 3);
        x.write(0, 0, 0);
        x.write(0, 0, 0);
        x.deliver(1, 1);
        Due.is("held", x.late(1), 1);
        x.deliver(0, 1);
        Due.is("given", x.late(1), 0);
    }

    @Case("Promise 16, -1: no such")
    static void lateOfNone() {
        ReadingCircles x = Start.of(2, 3);
        noneSuch("late", x::late, -1, 2, 8, LOW, HIGH);
    }
}

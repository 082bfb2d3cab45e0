import java.util.function.IntUnaryOperator;

/** Boundary cases of promises 1 to 6: a new object, members, circles, and what is written by calls. */
final class WritingCases {
    private static final int LOW = Start.LOW;
    private static final int HIGH = Start.HIGH;

    private WritingCases() {
    }

    private static void allRefused(String call, ReadingCircles x, IntUnaryOperator asked, int status, int... wrong) {
        for (int value : wrong) {
            Due.refused(call + " with " + value, x, asked.applyAsInt(value), status);
        }
    }

    @Case("Promise 1, no MEMBERS")
    static void newWithoutMembers() {
        ReadingCircles x = new ReadingCircles();
        Due.is("count(0)", x.count(0), 0);
        Due.is("late(0)", x.late(0), -1);
        Due.is("slot(0, 0)", x.slot(0, 0), -1);
        Due.is("read(0, 0)", x.read(0, 0), -1);
        Due.refused("forge(0, 0, 3, 1)", x, x.forge(0, 0, 3, 1), 1);
    }

    @Case("Promise 1, no CIRCLES")
    static void newWithoutCircles() {
        ReadingCircles x = new ReadingCircles();
        Due.is("count(1)", x.count(1), 0);
        Due.is("circleTold(0, 0)", x.circleTold(0, 0), -1);
        Due.refused("deliverAll(0, 0)", x, x.deliverAll(0, 0), 1);
    }

    @Case("Promise 1, no LETTERS")
    static void newWithoutLetters() {
        ReadingCircles x = new ReadingCircles();
        Due.is("count(2)", x.count(2), 0);
        Due.is("told(0, 0)", x.told(0, 0), -1);
        Due.is("past(0)", x.past(0), -1);
        Due.refused("act(0, 0, 0)", x, x.act(0, 0, 0), 1);
    }

    @Case("Promise 1, nothing of another object's")
    static void newBesideAFullOne() {
        Start.withHundredLetters().act(0, 3, 0);
        ReadingCircles x = new ReadingCircles();
        Due.row("count(i)", x::count, 0, 0, 0, 0);
        Due.is("the first member", x.member(), 0);
    }

    @Case("Promise 2, its number: the first is 0, the eighth 7")
    static void eightMembers() {
        ReadingCircles x = new ReadingCircles();
        for (int i = 0; i < 8; i++) {
            Due.done("member()", x, x.member(), i);
        }
        Due.is("count(0)", x.count(0), 8);
    }

    @Case("Promise 2, STATUS 2: a ninth MEMBER")
    static void ninthMember() {
        ReadingCircles x = Start.of(8);
        Due.refused("member()", x, x.member(), 2);
        Due.refused("member() again", x, x.member(), 2);
        Due.is("count(0)", x.count(0), 8);
        Due.is("late(8)", x.late(8), -1);
    }

    @Case("Promise 2, a MEMBER more while LETTERS are there has GIVEN, HOLDS and awaits nothing")
    static void laterMember() {
        ReadingCircles x = Start.of(2, 3);
        x.write(0, 0, 0);
        Due.done("member()", x, x.member(), 2);
        Due.is("read(2, 0)", x.read(2, 0), -1);
        Due.is("slot(2, 0)", x.slot(2, 0), 0);
        Due.is("late(2)", x.late(2), 0);
    }

    @Case("Promise 3, 2 at least: two are a CIRCLE, STATUS 1: none, one")
    static void smallCircles() {
        ReadingCircles x = Start.of(8);
        Due.refused("circle(0)", x, x.circle(0), 1);
        for (int m = 0; m < 8; m++) {
            Due.refused("of member " + m + " alone", x, x.circle(1 << m), 1);
        }
        Due.done("circle(129)", x, x.circle(129), 0);
        Due.done("circle(3)", x, x.circle(3), 1);
        Due.is("count(1)", x.count(1), 2);
    }

    @Case("Promise 3, all there are such: a CIRCLE of all eight")
    static void largestCircle() {
        ReadingCircles x = Start.of(8);
        Due.done("circle(255)", x, x.circle(255), 0);
        Due.is("circleTold(0, 0)", x.circleTold(0, 0), 255);
    }

    @Case("Promise 3, all there are such: STATUS 1: the MEMBER that comes next is not there yet")
    static void circleOfNextMember() {
        ReadingCircles x = Start.of(3);
        Due.refused("circle(8 | 3)", x, x.circle(8 | 3), 1);
        x.member();
        Due.done("circle(8 | 3)", x, x.circle(8 | 3), 0);
    }

    @Case("Promise 3, all there are such: STATUS 1: bits past the eighth, the sign too")
    static void circleOfFarBits() {
        ReadingCircles x = Start.of(8);
        for (int bit = 8; bit < 32; bit++) {
            Due.refused("3 and bit " + bit, x, x.circle(3 | 1 << bit), 1);
        }
        Due.refused("circle(-1)", x, x.circle(-1), 1);
        Due.is("count(1)", x.count(1), 0);
    }

    @Case("Promise 3, STATUS 1: no MEMBERS at all, one MEMBER alone")
    static void circleWithoutMembers() {
        ReadingCircles x = Start.of(0);
        Due.refused("circle(3)", x, x.circle(3), 1);
        x.member();
        Due.refused("circle(1)", x, x.circle(1), 1);
        Due.refused("circle(3)", x, x.circle(3), 1);
    }

    @Case("Promise 3, its number: the first is 0, the sixth 5, the same MEMBERS again are another")
    static void sixCircles() {
        ReadingCircles x = Start.of(3);
        int[] bits = {3, 3, 7, 6, 5, 3};
        for (int i = 0; i < bits.length; i++) {
            Due.done("circle(" + bits[i] + ")", x, x.circle(bits[i]), i);
        }
        Due.row("circleTold(i, 0)", c -> x.circleTold(c, 0), bits);
    }

    @Case("Promise 3, STATUS 2: a seventh CIRCLE")
    static void seventhCircle() {
        ReadingCircles x = Start.of(2, 3, 3, 3, 3, 3, 3);
        Due.refused("circle(3)", x, x.circle(3), 2);
        Due.is("count(1)", x.count(1), 6);
        Due.is("circleTold(6, 0)", x.circleTold(6, 0), -1);
    }

    @Case("Promise 3, STATUS 1 before 2: a seventh CIRCLE that can't be")
    static void seventhCircleThatCanNotBe() {
        ReadingCircles x = Start.of(2, 3, 3, 3, 3, 3, 3);
        allRefused("circle", x, x::circle, 1, 0, 1, 2, 4, 7, -1);
    }

    @Case("Promise 4, a NOTE, VIEW or FLUSH: kinds 0, 4, 5")
    static void kindsThatCanBe() {
        ReadingCircles x = Start.of(2, 3);
        Due.done("write(0, 0, 0)", x, x.write(0, 0, 0), 0);
        Due.done("write(0, 0, 4)", x, x.write(0, 0, 4), 1);
        Due.done("write(0, 0, 5)", x, x.write(0, 0, 5), 2);
        Due.row("told(i, 0)", l -> x.told(l, 0), 0, 4, 5);
        Due.row("told(i, 4)", l -> x.told(l, 4), -1, -1, -1);
    }

    @Case("Promise 4, STATUS 1: a kind that can't be")
    static void kindsThatCanNotBe() {
        ReadingCircles x = Start.of(2, 3);
        allRefused("kind", x, kind -> x.write(0, 0, kind), 1, 1, 2, 3, 6, -1, LOW, HIGH);
        Due.is("count(2)", x.count(2), 0);
    }

    @Case("Promise 4, STATUS 1: no such MEMBER")
    static void writeByNone() {
        ReadingCircles x = Start.of(2, 3);
        allRefused("member", x, m -> x.write(m, 0, 0), 1, 2, -1, 8, LOW, HIGH);
        Due.is("count(2)", x.count(2), 0);
    }

    @Case("Promise 4, STATUS 1: no such CIRCLE")
    static void writeToNone() {
        ReadingCircles x = Start.of(2, 3);
        allRefused("circle", x, c -> x.write(0, c, 0), 1, 1, -1, 6, LOW, HIGH);
        Due.is("count(2)", x.count(2), 0);
    }

    @Case("Promise 4, the last MEMBER there can be writes to the last CIRCLE there can be")
    static void writeByTheLast() {
        ReadingCircles x = Start.of(8, 3, 3, 3, 3, 3, 192);
        Due.done("write(7, 5, 0)", x, x.write(7, 5, 0), 0);
        Due.is("state(6, 0)", x.state(6, 0), 1);
    }

    @Case("Promise 4, STATUS 2: 100 are written")
    static void writeWithoutRoom() {
        ReadingCircles x = Start.withHundredLetters();
        for (int kind : new int[] {0, 4, 5}) {
            Due.refused("kind " + kind, x, x.write(1, 0, kind), 2);
        }
        Due.is("count(2)", x.count(2), 100);
    }

    @Case("Promise 4, STATUS 3: it is not in it")
    static void writeFromOutside() {
        ReadingCircles x = Start.of(3, 3, 6);
        Due.refused("write(2, 0, 0)", x, x.write(2, 0, 0), 3);
        Due.refused("write(0, 1, 5)", x, x.write(0, 1, 5), 3);
        Due.is("count(2)", x.count(2), 0);
    }

    @Case("Promise 4, STATUS 1 before 2")
    static void writeNoSuchBeforeNoRoom() {
        ReadingCircles x = Start.withHundredLetters();
        Due.refused("kind", x, x.write(0, 0, 3), 1);
        Due.refused("member", x, x.write(3, 0, 0), 1);
        Due.refused("circle", x, x.write(0, 1, 0), 1);
    }

    @Case("Promise 4, STATUS 1 before 3")
    static void writeNoSuchBeforeOutside() {
        ReadingCircles x = Start.of(3, 3);
        Due.refused("kind", x, x.write(2, 0, 1), 1);
        Due.refused("circle", x, x.write(2, 1, 0), 1);
    }

    @Case("Promise 4, STATUS 2 before 3")
    static void writeNoRoomBeforeOutside() {
        ReadingCircles x = Start.withHundredLetters();
        Due.refused("write(2, 0, 0)", x, x.write(2, 0, 0), 2);
    }

    @Case("Promise 5, a LETTER which the MEMBER has written, and not GIVEN")
    static void replyToItsOwnHeldOne() {
        ReadingCircles x = Start.of(2, 3);
        x.seal(1, 0, -1);
        Due.is("state(1, 0)", x.state(1, 0), 2);
        Due.done("reply(1, 0, 0)", x, x.reply(1, 0, 0), 1);
        Due.is("told(1, 0)", x.told(1, 0), 1);
        Due.is("told(1, 4)", x.told(1, 4), 0);
    }

    @Case("Promise 5, a LETTER which the MEMBER has GIVEN, and not written")
    static void replyToAGivenOne() {
        ReadingCircles x = Start.of(2, 3);
        x.write(0, 0, 0);
        x.deliver(0, 1);
        Due.done("reply(1, 0, 0)", x, x.reply(1, 0, 0), 1);
        Due.is("told(1, 4)", x.told(1, 4), 0);
    }

    @Case("Promise 5, a LETTER of another CIRCLE, one of an ELDEST's ORDERS")
    static void replyAcrossCircles() {
        ReadingCircles x = Start.of(3, 3, 6);
        x.seal(0, 0, -1);
        x.deliver(0, 1);
        Due.refused("the Order is on the line", x, x.reply(1, 1, 1), 3);
        x.deliver(1, 1);
        Due.done("reply(1, 1, 1)", x, x.reply(1, 1, 1), 2);
        Due.is("told(2, 4)", x.told(2, 4), 1);
    }

    @Case("Promise 5, STATUS 3: it has not, the LETTER is on THE LINE to it")
    static void replyToOneOnTheLine() {
        ReadingCircles x = Start.of(2, 3);
        x.write(0, 0, 0);
        Due.refused("reply(1, 0, 0)", x, x.reply(1, 0, 0), 3);
    }

    @Case("Promise 5, STATUS 3: it has not, it HOLDS the LETTER")
    static void replyToAHeldOne() {
        ReadingCircles x = Start.of(2, 3);
        x.write(0, 0, 0);
        x.write(0, 0, 0);
        x.deliver(1, 1);
        Due.refused("reply(1, 0, 1)", x, x.reply(1, 0, 1), 3);
    }

    @Case("Promise 5, STATUS 3: it has not, it has nothing to do with the LETTER")
    static void replyToAnotherCirclesOne() {
        ReadingCircles x = Start.of(3, 3, 6);
        x.write(0, 0, 0);
        Due.refused("reply(2, 1, 0)", x, x.reply(2, 1, 0), 3);
    }

    @Case("Promise 5, STATUS 3: it is not in the CIRCLE, though it has GIVEN the LETTER")
    static void replyFromOutside() {
        ReadingCircles x = Start.of(3, 3, 6);
        x.write(0, 0, 0);
        Due.refused("reply(0, 1, 0)", x, x.reply(0, 1, 0), 3);
        Due.is("count(2)", x.count(2), 1);
    }

    @Case("Promise 5, STATUS 1: no such LETTER, none too")
    static void replyToNone() {
        ReadingCircles x = Start.of(2, 3);
        Due.refused("reply(0, 0, 0) before any", x, x.reply(0, 0, 0), 1);
        x.write(0, 0, 0);
        allRefused("letter", x, l -> x.reply(0, 0, l), 1, 1, -1, -2, 200, LOW, HIGH);
    }

    @Case("Promise 5, STATUS 1: no such MEMBER, no such CIRCLE")
    static void replyByNone() {
        ReadingCircles x = Start.of(2, 3);
        x.write(0, 0, 0);
        allRefused("member", x, m -> x.reply(m, 0, 0), 1, 2, -1, 8, LOW, HIGH);
        allRefused("circle", x, c -> x.reply(0, c, 0), 1, 1, -1, 6, LOW, HIGH);
        Due.is("count(2)", x.count(2), 1);
    }

    @Case("Promise 5, STATUS 2: 100 are written")
    static void replyWithoutRoom() {
        ReadingCircles x = Start.withHundredLetters();
        Due.refused("reply(0, 0, 99)", x, x.reply(0, 0, 99), 2);
        Due.is("count(2)", x.count(2), 100);
    }

    @Case("Promise 5, STATUS 1 before 2")
    static void replyNoSuchBeforeNoRoom() {
        ReadingCircles x = Start.withHundredLetters();
        Due.refused("letter", x, x.reply(0, 0, 100), 1);
        Due.refused("member", x, x.reply(3, 0, 0), 1);
        Due.refused("circle", x, x.reply(0, 1, 0), 1);
    }

    @Case("Promise 5, STATUS 1 before 3")
    static void replyNoSuchBeforeNotSo() {
        ReadingCircles x = Start.of(3, 3);
        x.write(0, 0, 0);
        Due.refused("letter", x, x.reply(2, 0, 1), 1);
        Due.refused("circle", x, x.reply(1, 1, 0), 1);
    }

    @Case("Promise 5, STATUS 2 before 3")
    static void replyNoRoomBeforeNotSo() {
        ReadingCircles x = Start.withHundredLetters();
        Due.refused("not in it", x, x.reply(2, 0, 0), 2);
        Due.refused("not given", x, x.reply(1, 0, 0), 2);
    }

    @Case("Promise 6, it answers none: -1")
    static void sealWithoutAnswer() {
        ReadingCircles x = Start.of(2, 3);
        Due.done("seal(1, 0, -1)", x, x.seal(1, 0, -1), 0);
        Due.is("told(0, 0)", x.told(0, 0), 2);
        Due.is("told(0, 4)", x.told(0, 4), -1);
    }

    @Case("Promise 6, it answers a LETTER as a REPLY: one written and not GIVEN, one GIVEN and not written")
    static void sealWithAnswer() {
        ReadingCircles x = Start.of(2, 3);
        x.write(0, 0, 0);
        x.deliver(0, 1);
        Due.done("given", x, x.seal(1, 0, 0), 1);
        Due.done("written", x, x.seal(1, 0, 1), 2);
        Due.row("told(i, 4)", l -> x.told(l, 4), -1, 0, 1);
    }

    @Case("Promise 6, by the ELDEST the ORDER comes with it, and the answer is the SEALED one's number")
    static void sealByEldest() {
        ReadingCircles x = Start.of(2, 3);
        x.write(0, 0, 0);
        Due.done("seal(0, 0, 0)", x, x.seal(0, 0, 0), 1);
        Due.is("told(1, 5)", x.told(1, 5), 0);
        Due.is("state(0, 2)", x.state(0, 2), 3);
    }

    @Case("Promise 6, STATUS 3: it has not written or GIVEN the LETTER: on THE LINE, HELD, nothing to do with it")
    static void sealToNotGiven() {
        ReadingCircles x = Start.of(3, 3, 6);
        x.write(0, 0, 0);
        x.write(0, 0, 0);
        x.deliver(1, 1);
        Due.refused("on the line", x, x.seal(1, 0, 0), 3);
        Due.refused("held", x, x.seal(1, 0, 1), 3);
        Due.refused("nothing to do with it", x, x.seal(2, 1, 0), 3);
    }

    @Case("Promise 6, STATUS 3: it is not in the CIRCLE, with and without an answer")
    static void sealFromOutside() {
        ReadingCircles x = Start.of(3, 3, 6);
        x.write(0, 0, 0);
        Due.refused("seal(0, 1, -1)", x, x.seal(0, 1, -1), 3);
        Due.refused("seal(0, 1, 0)", x, x.seal(0, 1, 0), 3);
        Due.is("count(2)", x.count(2), 1);
    }

    @Case("Promise 6, STATUS 1: no such LETTER, -2 too")
    static void sealToNone() {
        ReadingCircles x = Start.of(2, 3);
        Due.refused("seal(0, 0, 0) before any", x, x.seal(0, 0, 0), 1);
        x.write(0, 0, 0);
        allRefused("letter", x, l -> x.seal(0, 0, l), 1, 1, -2, 200, LOW, HIGH);
    }

    @Case("Promise 6, STATUS 1: no such MEMBER, no such CIRCLE")
    static void sealByNone() {
        ReadingCircles x = Start.of(2, 3);
        allRefused("member", x, m -> x.seal(m, 0, -1), 1, 2, -1, 8, LOW, HIGH);
        allRefused("circle", x, c -> x.seal(0, c, -1), 1, 1, -1, 6, LOW, HIGH);
        Due.is("count(2)", x.count(2), 0);
    }

    @Case("Promise 6, STATUS 2: 100 are written")
    static void sealWithoutRoom() {
        ReadingCircles x = Start.withHundredLetters();
        Due.refused("seal(0, 0, -1)", x, x.seal(0, 0, -1), 2);
        Due.refused("seal(0, 0, 0)", x, x.seal(0, 0, 0), 2);
        Due.is("count(2)", x.count(2), 100);
    }

    @Case("Promise 6, STATUS 1 before 2")
    static void sealNoSuchBeforeNoRoom() {
        ReadingCircles x = Start.withHundredLetters();
        Due.refused("letter", x, x.seal(0, 0, 100), 1);
        Due.refused("member", x, x.seal(3, 0, -1), 1);
        Due.refused("circle", x, x.seal(0, 1, -1), 1);
    }

    @Case("Promise 6, STATUS 1 before 3")
    static void sealNoSuchBeforeNotSo() {
        ReadingCircles x = Start.of(3, 3);
        x.write(0, 0, 0);
        Due.refused("letter", x, x.seal(2, 0, 1), 1);
        Due.refused("circle", x, x.seal(1, 1, 0), 1);
    }

    @Case("Promise 6, STATUS 2 before 3")
    static void sealNoRoomBeforeNotSo() {
        ReadingCircles x = Start.withHundredLetters();
        Due.refused("not in it", x, x.seal(2, 0, -1), 2);
        Due.refused("not given", x, x.seal(1, 0, 0), 2);
    }
}

/** Boundary cases of promises 7 and 8: what comes from the line. */
final class DeliveryCases {
    private static final int[] FAR = {-1, 8, 100, 200, Start.LOW, Start.HIGH};

    private DeliveryCases() {
    }

    @Case("Promise 7, how many it GAVE: none, and that is done")
    static void gaveNone() {
        ReadingCircles x = Start.of(2, 3);
        x.write(0, 0, 0);
        x.write(0, 0, 0);
        Due.done("deliver(1, 1)", x, x.deliver(1, 1), 0);
        Due.is("state(1, 1)", x.state(1, 1), 2);
        Due.is("late(1)", x.late(1), 1);
    }

    @Case("Promise 7, how many it GAVE: the one that came, and those that waited for it")
    static void gaveSome() {
        ReadingCircles x = Start.of(2, 3);
        x.write(0, 0, 0);
        x.write(0, 0, 0);
        x.write(0, 0, 0);
        Due.done("deliver(0, 1)", x, x.deliver(0, 1), 1);
        x.deliver(2, 1);
        Due.done("deliver(1, 1)", x, x.deliver(1, 1), 2);
    }

    @Case("Promise 7, how many it GAVE: the ELDEST's ORDER is one of them")
    static void gaveWithOrder() {
        ReadingCircles x = Start.of(2, 3);
        x.seal(1, 0, -1);
        Due.done("deliver(0, 0)", x, x.deliver(0, 0), 2);
        Due.row("read(0, i)", i -> x.read(0, i), 0, 1, -1);
    }

    @Case("Promise 7, how many this MEMBER GAVE by that: not those that it had GIVEN before, nor others'")
    static void gaveByThat() {
        ReadingCircles x = Start.of(3, 7);
        x.write(1, 0, 0);
        x.write(0, 0, 0);
        x.deliver(1, 2);
        Due.done("deliver(1, 1)", x, x.deliver(1, 1), 1);
    }

    @Case("Promise 7, an ORDER comes from THE LINE as all LETTERS do")
    static void deliverOrder() {
        ReadingCircles x = Start.of(2, 3);
        x.seal(0, 0, -1);
        Due.is("on the line", x.state(1, 1), 1);
        Due.done("deliver(1, 1)", x, x.deliver(1, 1), 0);
        Due.done("deliver(0, 1)", x, x.deliver(0, 1), 2);
    }

    @Case("Promise 7, STATUS 1: no such LETTER")
    static void deliverNoLetter() {
        ReadingCircles x = Start.of(2, 3);
        Due.refused("deliver(0, 1) before any", x, x.deliver(0, 1), 1);
        x.write(0, 0, 0);
        Due.refused("deliver(1, 1)", x, x.deliver(1, 1), 1);
        for (int wrong : FAR) {
            Due.refused("deliver(" + wrong + ", 1)", x, x.deliver(wrong, 1), 1);
        }
    }

    @Case("Promise 7, STATUS 1: no such MEMBER")
    static void deliverToNone() {
        ReadingCircles x = Start.of(2, 3);
        x.write(0, 0, 0);
        Due.refused("deliver(0, 2)", x, x.deliver(0, 2), 1);
        for (int wrong : FAR) {
            Due.refused("deliver(0, " + wrong + ")", x, x.deliver(0, wrong), 1);
        }
        Due.is("late(1)", x.late(1), 1);
    }

    @Case("Promise 7, STATUS 3: its writer, also of one that its writer HOLDS, and of an ORDER")
    static void deliverToWriter() {
        ReadingCircles x = Start.of(2, 3);
        x.write(0, 0, 0);
        x.seal(1, 0, -1);
        x.deliver(1, 0);
        Due.refused("given", x, x.deliver(0, 0), 3);
        Due.refused("held", x, x.deliver(1, 1), 3);
        Due.refused("the Order", x, x.deliver(2, 0), 3);
        Due.is("given(0, 0, 0)", x.given(0, 0, 0), 2);
    }

    @Case("Promise 7, STATUS 3: it HOLDS it")
    static void deliverHeld() {
        ReadingCircles x = Start.of(2, 3);
        x.write(0, 0, 0);
        x.write(0, 0, 0);
        x.deliver(1, 1);
        Due.refused("deliver(1, 1)", x, x.deliver(1, 1), 3);
        Due.is("slot(1, 1)", x.slot(1, 1), 0);
    }

    @Case("Promise 7, STATUS 3: it has GIVEN it")
    static void deliverGiven() {
        ReadingCircles x = Start.of(2, 3);
        x.write(0, 0, 0);
        x.deliver(0, 1);
        Due.refused("deliver(0, 1)", x, x.deliver(0, 1), 3);
        Due.is("given(1, 0, 0)", x.given(1, 0, 0), 1);
        Due.is("read(1, 1)", x.read(1, 1), -1);
    }

    @Case("Promise 7, STATUS 3: it is not in the LETTER's CIRCLE")
    static void deliverOutside() {
        ReadingCircles x = Start.of(3, 3, 6);
        x.write(0, 0, 0);
        Due.refused("deliver(0, 2)", x, x.deliver(0, 2), 3);
        Due.is("state(2, 0)", x.state(2, 0), 0);
    }

    @Case("Promise 8, STATUS 1: no such CIRCLE")
    static void deliverAllOfNone() {
        ReadingCircles x = Start.of(2, 3);
        x.write(0, 0, 0);
        Due.refused("deliverAll(1, 0)", x, x.deliverAll(1, 0), 1);
        for (int wrong : FAR) {
            Due.refused("deliverAll(" + wrong + ", 0)", x, x.deliverAll(wrong, 0), 1);
        }
        Due.is("late(1)", x.late(1), 1);
    }

    @Case("Promise 8, STATUS 1: a way that is neither 0 nor 1")
    static void deliverAllNoWay() {
        ReadingCircles x = Start.of(2, 3);
        x.write(0, 0, 0);
        for (int wrong : new int[] {-1, 2, 3, Start.LOW, Start.HIGH}) {
            Due.refused("deliverAll(0, " + wrong + ")", x, x.deliverAll(0, wrong), 1);
        }
        Due.is("late(1)", x.late(1), 1);
    }

    @Case("Promise 8, none is on THE LINE: 0 came, and that is done")
    static void deliverAllOfNothing() {
        ReadingCircles x = Start.of(2, 3);
        Due.done("no letters", x, x.deliverAll(0, 0), 0);
        x.write(0, 0, 0);
        x.deliver(0, 1);
        Due.done("way 0", x, x.deliverAll(0, 0), 0);
        Due.done("way 1", x, x.deliverAll(0, 1), 0);
    }

    @Case("Promise 8, LETTERS of this CIRCLE alone")
    static void deliverAllOfOneCircle() {
        ReadingCircles x = Start.of(2, 3, 3, 3);
        x.write(0, 0, 0);
        x.write(0, 1, 0);
        x.write(1, 2, 0);
        Due.done("deliverAll(1, 0)", x, x.deliverAll(1, 0), 1);
        Due.is("state(1, 0)", x.state(1, 0), 1);
        Due.is("state(0, 2)", x.state(0, 2), 1);
        Due.is("held behind circle 0", x.state(1, 1), 2);
    }

    @Case("Promise 8, way 0: each time the lowest number")
    static void deliverAllUpward() {
        ReadingCircles x = Start.of(3, 7);
        x.write(0, 0, 0);
        x.write(1, 0, 0);
        x.write(0, 0, 0);
        Due.done("deliverAll(0, 0)", x, x.deliverAll(0, 0), 6);
        Due.row("read(2, i)", i -> x.read(2, i), 0, 1, 2, -1);
    }

    @Case("Promise 8, way 1: each time the highest number")
    static void deliverAllDownward() {
        ReadingCircles x = Start.of(3, 7);
        x.write(0, 0, 0);
        x.write(1, 0, 0);
        x.write(0, 0, 0);
        Due.done("deliverAll(0, 1)", x, x.deliverAll(0, 1), 6);
        Due.row("read(2, i)", i -> x.read(2, i), 1, 0, 2, -1);
    }

    /** Member 1 can give nothing of circle 0 while letter 0, to circle 1, is on the line to it. */
    private static ReadingCircles sealedThatMemberOneHolds() {
        ReadingCircles x = Start.of(3, 7, 6);
        x.write(2, 1, 0);
        x.seal(2, 0, -1);
        return x;
    }

    @Case("Promise 8, way 1: one that comes there meanwhile has the highest number and comes next")
    static void deliverAllOrderNext() {
        ReadingCircles x = sealedThatMemberOneHolds();
        Due.done("to 0, the Order to 1 and 2, to 1", x, x.deliverAll(0, 1), 4);
        Due.row("slot(1, i)", i -> x.slot(1, i), 2 + 3, 2 + 2, 0);
    }

    @Case("Promise 8, way 0: one that comes there meanwhile has the highest number and comes last")
    static void deliverAllOrderLast() {
        ReadingCircles x = sealedThatMemberOneHolds();
        Due.done("to 0, to 1, the Order to 1 and 2", x, x.deliverAll(0, 0), 4);
        Due.row("slot(1, i)", i -> x.slot(1, i), 2 + 2, 2 + 3, 0);
    }

    @Case("Promise 8, to the MEMBER with the lowest number to which it is on THE LINE")
    static void deliverAllToLowestMember() {
        ReadingCircles x = Start.of(4, 15, 6);
        x.write(1, 1, 0);
        x.seal(1, 0, -1);
        Due.done("to 0 first, then the Order to 1, 2, 3, then to 2, 3", x, x.deliverAll(0, 1), 6);
        Due.row("slot(2, i), which has the Order before the Sealed one", i -> x.slot(2, i), 2 + 3, 2 + 2, 0);
    }

    @Case("Promise 8, how many came, not how many were GIVEN")
    static void deliverAllCountsComing() {
        ReadingCircles x = Start.of(3, 7, 3);
        x.write(0, 1, 0);
        x.write(0, 0, 0);
        x.write(0, 0, 0);
        x.deliver(2, 2);
        Due.done("deliverAll(0, 0)", x, x.deliverAll(0, 0), 3);
        Due.is("member 1 holds", x.state(1, 2), 2);
        Due.is("circleTold(0, 3)", x.circleTold(0, 3), 0);
    }

    @Case("Promise 8, all: the most that can come, 100 SEALED ones and their ORDERS to 7 others each")
    static void deliverAllOfTheMost() {
        for (int way = 0; way < 2; way++) {
            ReadingCircles x = Start.of(8, 255);
            for (int i = 0; i < 100; i++) {
                x.seal(7, 0, -1);
            }
            Due.done("deliverAll(0, " + way + ")", x, x.deliverAll(0, way), 1400);
            Due.is("circleTold(0, 3)", x.circleTold(0, 3), 1);
            Due.isTrue("member 6 gave 200", x.read(6, 199) >= 0);
            for (int m = 0; m < 8; m++) {
                Due.is("late(" + m + ")", x.late(m), 0);
            }
        }
    }
}

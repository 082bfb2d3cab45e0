/** Boundary cases of 'Terms': numbers, limits, serials, clocks and saved counts. */
final class TermsCases {
    private TermsCases() {
    }

    @Case("Terms, a CIRCLE has the MEMBERS that it was made with: one that comes later is in none")
    static void laterMemberIsOutside() {
        ReadingCircles x = Start.of(2, 3);
        x.member();
        Due.refused("write(2, 0, 0)", x, x.write(2, 0, 0), 3);
        x.write(0, 0, 0);
        Due.is("state(2, 0)", x.state(2, 0), 0);
        Due.is("circleTold(0, 0)", x.circleTold(0, 0), 3);
    }

    @Case("Terms, the ELDEST is the MEMBER of the CIRCLE with the lowest number, first and last ones too")
    static void eldest() {
        ReadingCircles x = Start.of(8, 129, 192, 255, 254, 40, 48);
        Due.row("circleTold(i, 1)", c -> x.circleTold(c, 1), 0, 6, 0, 1, 3, 4);
    }

    @Case("Terms, LETTERS are numbered as they come, ORDERS among them")
    static void ordersAreNumberedToo() {
        ReadingCircles x = Start.of(2, 3);
        Due.is("the first", x.seal(0, 0, -1), 0);
        Due.is("its Order is 1", x.told(1, 0), 3);
        Due.is("the next", x.write(1, 0, 0), 2);
        Due.is("count(2)", x.count(2), 3);
    }

    @Case("Terms, at most 100 LETTERS are written by calls: the 100th is, the 101st is not")
    static void hundredLetters() {
        ReadingCircles x = Start.of(2, 3);
        for (int i = 0; i < 99; i++) {
            x.write(i % 2, 0, 0);
        }
        Due.done("the 100th", x, x.write(0, 0, 0), 99);
        Due.refused("the 101st", x, x.write(0, 0, 0), 2);
        Due.is("count(2)", x.count(2), 100);
    }

    @Case("Terms, at most 100 LETTERS are written by calls: by write, reply and seal together")
    static void hundredLettersOfAllCalls() {
        ReadingCircles x = Start.of(2, 3);
        for (int i = 0; i < 33; i++) {
            x.write(1, 0, 0);
            x.reply(1, 0, 0);
            x.seal(1, 0, -1);
        }
        Due.done("the 100th", x, x.seal(1, 0, -1), 99);
        Due.refused("write", x, x.write(1, 0, 0), 2);
        Due.refused("reply", x, x.reply(1, 0, 0), 2);
        Due.refused("seal", x, x.seal(1, 0, -1), 2);
    }

    @Case("Terms, ORDERS come besides: they are none of the 100")
    static void ordersAreNotOfTheHundred() {
        ReadingCircles x = Start.of(2, 3);
        for (int i = 0; i < 99; i++) {
            x.seal(0, 0, -1);
        }
        Due.done("the 100th", x, x.seal(0, 0, -1), 198);
        Due.is("count(2)", x.count(2), 200);
        Due.is("the last Order names it", x.told(199, 4), 198);
        Due.is("the last Order's serial", x.told(199, 3), 200);
        Due.refused("the 101st", x, x.seal(0, 0, -1), 2);
        Due.is("all come to the other", x.deliverAll(0, 1), 200);
        Due.is("the 200th that it gave", x.read(1, 199), 199);
    }

    @Case("Terms, ORDERS come besides: also when no LETTER more can be written by calls")
    static void ordersComeWhenFull() {
        ReadingCircles x = Start.of(2, 3);
        for (int i = 0; i < 100; i++) {
            x.seal(1, 0, -1);
        }
        Due.refused("the 101st", x, x.seal(1, 0, -1), 2);
        Due.is("deliver(0, 0)", x.deliver(0, 0), 2);
        Due.is("told(100, 0)", x.told(100, 0), 3);
        Due.is("deliverAll(0, 0)", x.deliverAll(0, 0), 99 + 100);
        Due.is("count(2)", x.count(2), 200);
        Due.is("told(99, 5)", x.told(99, 5), 99);
        Due.is("circleTold(0, 3)", x.circleTold(0, 3), 1);
    }

    @Case("Terms, at most 100 LETTERS are written by calls: refused calls are none of them")
    static void refusedCallsAreNotOfTheHundred() {
        ReadingCircles x = Start.of(3, 3);
        for (int i = 0; i < 30; i++) {
            x.write(2, 0, 0);
            x.write(0, 0, 3);
            x.reply(1, 0, 0);
            x.seal(2, 0, -1);
        }
        for (int i = 0; i < 100; i++) {
            Due.done("write", x, x.write(0, 0, 0), i);
        }
        Due.refused("the 101st", x, x.write(0, 0, 0), 2);
    }

    @Case("Terms, SERIAL: its own counted, so the first is 1")
    static void firstSerial() {
        ReadingCircles x = Start.of(2, 3);
        x.write(1, 0, 0);
        Due.is("told(0, 3)", x.told(0, 3), 1);
    }

    @Case("Terms, SERIAL: by writer and by CIRCLE of their own")
    static void serialsByWriterAndCircle() {
        ReadingCircles x = Start.of(2, 3, 3);
        x.write(0, 0, 0);
        x.write(0, 0, 0);
        x.write(0, 1, 0);
        x.write(1, 0, 0);
        x.write(0, 0, 0);
        Due.row("told(i, 3)", l -> x.told(l, 3), 1, 2, 1, 1, 3);
    }

    @Case("Terms, SERIAL: the ELDEST's ORDERS are counted")
    static void serialsOfOrders() {
        ReadingCircles x = Start.of(2, 3);
        x.seal(0, 0, -1);
        x.write(0, 0, 0);
        x.seal(1, 0, -1);
        x.deliver(3, 0);
        x.write(0, 0, 0);
        Due.row("told(i, 3)", l -> x.told(l, 3), 1, 2, 3, 1, 4, 5);
    }

    @Case("Terms, SERIAL: how many it wrote, also those that it has not GIVEN")
    static void serialsOfHeldOnes() {
        ReadingCircles x = Start.of(2, 3);
        x.seal(1, 0, -1);
        x.write(1, 0, 0);
        Due.is("given(1, 0, 1)", x.given(1, 0, 1), 0);
        Due.is("told(1, 3)", x.told(1, 3), 2);
    }

    @Case("Terms, CLOCK: a ROW for each CIRCLE that its writer is in")
    static void clockRows() {
        ReadingCircles x = Start.of(4, 3, 14, 7, 12, 6);
        x.write(1, 0, 0);
        Due.is("counts of circles 0, 1, 2, 4", x.told(0, 6), 2 + 3 + 3 + 2);
        x.bare(0, 0, 0);
        for (int d : new int[] {0, 1, 2, 4}) {
            Due.done("row " + d, x, x.forge(0, 0, 2, d), 0);
        }
    }

    @Case("Terms, CLOCK: no ROW for CIRCLES that its writer is not in")
    static void clockRowsThatAreMissing() {
        ReadingCircles x = Start.of(4, 3, 14, 7, 12, 6);
        x.write(3, 1, 0);
        Due.is("counts of circles 1, 3", x.told(0, 6), 3 + 2);
        x.bare(0, 0, 0);
        for (int d : new int[] {0, 2, 4, 5}) {
            Due.refused("row " + d, x, x.forge(0, 0, 2, d), 10);
        }
    }

    @Case("Terms, CLOCK: no ROW for a CIRCLE that was made after it was written")
    static void clockRowsOfLaterCircles() {
        ReadingCircles x = Start.of(2, 3);
        x.write(0, 0, 0);
        x.circle(3);
        x.bare(1, 0, 0);
        Due.is("told(0, 6)", x.told(0, 6), 2);
        Due.refused("row 1", x, x.forge(1, 0, 2, 1), 10);
        x.write(0, 0, 0);
        Due.is("of the next", x.told(1, 6), 4);
    }

    @Case("Terms, CLOCK: the counts when it is written: it does not count itself")
    static void clockWithoutItself() {
        ReadingCircles x = Start.of(2, 3);
        x.write(0, 0, 0);
        x.write(0, 0, 0);
        x.bare(1, 0, 0);
        x.bare(1, 1, 1);
        Due.is("of the first", x.forge(1, 0, 1, 0), 0);
        Due.is("of the second", x.forge(1, 1, 1, 0), 1);
    }

    @Case("Terms, CLOCK: the counts when it is written: what is GIVEN later does not change it")
    static void clockStays() {
        ReadingCircles x = Start.of(2, 3);
        x.write(0, 0, 0);
        x.write(1, 0, 0);
        x.bare(1, 0, 1);
        x.deliver(0, 1);
        x.bare(1, 1, 1);
        Due.is("put before", x.forge(1, 0, 1, 0), 0);
        Due.is("put behind", x.forge(1, 1, 1, 0), 0);
        Due.is("its own", x.forge(1, 1, 1, 1), 0);
    }

    @Case("Terms, CLOCK: counts what is GIVEN, not what is HELD")
    static void clockWithoutHeld() {
        ReadingCircles x = Start.of(3, 7);
        x.write(0, 0, 0);
        x.write(0, 0, 0);
        x.deliver(1, 2);
        x.seal(2, 0, -1);
        x.write(2, 0, 0);
        x.bare(0, 0, 3);
        Due.is("of member 0", x.forge(0, 0, 1, 0), 0);
        Due.is("of its writer", x.forge(0, 0, 1, 2), 0);
    }

    @Case("Terms, CLOCK: 0 for MEMBERS that are not in d, also such as are not there")
    static void clockOfOutsiders() {
        ReadingCircles x = Start.of(4, 6);
        x.write(1, 0, 0);
        x.write(1, 0, 0);
        x.write(1, 0, 0);
        x.bare(0, 0, 2);
        Due.row("forge(0, 0, 1, i)", n -> x.forge(0, 0, 1, n), 0, 2, 0, 0, 0, 0, 0, 0);
    }

    @Case("Terms, an ORDER's CLOCK is that of the SEALED one that it names")
    static void clockOfOrder() {
        ReadingCircles x = Start.of(4, 7, 13, 6);
        x.write(3, 1, 0);
        x.deliver(0, 0);
        x.seal(1, 0, -1);
        x.deliver(1, 0);
        Due.is("the Order", x.told(2, 4), 1);
        Due.is("counts of the Sealed one", x.told(1, 6), 5);
        Due.is("counts of the Order", x.told(2, 6), 5);
        x.bare(3, 0, 2);
        Due.done("not what the eldest had given", x, x.forge(3, 0, 2, 0), 0);
        Due.refused("no row of the eldest's own", x, x.forge(3, 0, 2, 1), 10);
        Due.done("the row of the writer's own", x, x.forge(3, 0, 2, 2), 0);
    }

    @Case("Terms, SAVED: without an earlier one none")
    static void savedOfTheFirst() {
        ReadingCircles x = Start.of(3, 7);
        x.write(0, 0, 0);
        Due.is("told(0, 7)", x.told(0, 7), 0);
    }

    @Case("Terms, SAVED: all but the counts that have changed")
    static void savedOfTheSecond() {
        ReadingCircles x = Start.of(3, 7, 3);
        x.write(0, 0, 0);
        x.write(0, 0, 0);
        Due.is("its own has", x.told(1, 7), 4);
        x.write(1, 0, 0);
        x.deliver(2, 0);
        x.write(0, 0, 0);
        Due.is("two have", x.told(3, 7), 3);
    }

    @Case("Terms, SAVED: all, where its writer has GIVEN none since")
    static void savedOfAll() {
        ReadingCircles x = Start.of(3, 7);
        x.seal(1, 0, -1);
        x.write(1, 0, 0);
        Due.is("told(1, 7)", x.told(1, 7), 3);
        Due.is("told(1, 6)", x.told(1, 6), 3);
    }

    @Case("Terms, SAVED: the LETTER last before it, not an earlier one")
    static void savedSinceTheLast() {
        ReadingCircles x = Start.of(2, 3);
        x.write(0, 0, 0);
        x.write(1, 0, 0);
        x.deliver(1, 0);
        x.write(0, 0, 0);
        x.write(0, 0, 0);
        Due.is("both have changed", x.told(2, 7), 0);
        Due.is("one has", x.told(3, 7), 1);
    }

    @Case("Terms, SAVED: a LETTER to the same CIRCLE, not to another")
    static void savedInOneCircle() {
        ReadingCircles x = Start.of(2, 3, 3);
        x.write(0, 0, 0);
        x.write(0, 1, 0);
        Due.is("told(1, 7)", x.told(1, 7), 0);
        x.write(0, 0, 0);
        Due.is("told(2, 7)", x.told(2, 7), 2);
    }

    @Case("Terms, SAVED: a LETTER of the same writer, not of another")
    static void savedOfOneWriter() {
        ReadingCircles x = Start.of(2, 3);
        x.write(0, 0, 0);
        x.write(1, 0, 0);
        Due.is("told(1, 7)", x.told(1, 7), 0);
    }

    /** Letters 0 by 2, 1 by 0 (clock 0 0 1), 2 by 1 (clock 0 0 0), 3 the Order, 4 by 0 (clock 2 1 1). */
    private static ReadingCircles orderBetweenLetters() {
        ReadingCircles x = Start.of(3, 7);
        x.write(2, 0, 0);
        x.deliver(0, 0);
        x.write(0, 0, 0);
        x.seal(1, 0, -1);
        x.deliver(2, 0);
        x.write(0, 0, 0);
        return x;
    }

    @Case("Terms, SAVED: a LETTER by a call, ORDERS are passed over")
    static void savedPastOrders() {
        Due.is("told(4, 7)", orderBetweenLetters().told(4, 7), 1);
    }

    @Case("Terms, SAVED: counts of a LETTER that is no ORDER, so an ORDER has none")
    static void savedOfOrder() {
        ReadingCircles x = orderBetweenLetters();
        Due.is("told(3, 0)", x.told(3, 0), 3);
        Due.is("told(3, 7)", x.told(3, 7), 0);
    }

    @Case("Terms, SAVED: no count of a ROW that the earlier CLOCK lacks")
    static void savedOfNewRow() {
        ReadingCircles x = Start.of(3, 7);
        x.write(0, 0, 0);
        x.circle(7);
        x.write(0, 0, 0);
        Due.is("told(1, 6)", x.told(1, 6), 6);
        Due.is("told(1, 7)", x.told(1, 7), 2);
    }

    @Case("Terms, SAVED: of MEMBERS that are in the ROW's CIRCLE alone")
    static void savedOfMembersAlone() {
        ReadingCircles x = Start.of(8, 132);
        x.write(7, 0, 0);
        x.write(7, 0, 0);
        Due.is("told(1, 6)", x.told(1, 6), 2);
        Due.is("told(1, 7)", x.told(1, 7), 1);
    }

    @Case("Terms, an object is used for 512 calls: the 512th is answered as all are")
    static void lastCall() {
        ReadingCircles x = Start.of(2, 3);
        x.write(0, 0, 0);
        for (int call = 5; call < 512; call++) {
            x.act(0, 0, call);
        }
        Due.is("call 512", x.deliver(0, 1), 1);
        ReadingCircles y = Start.of(2, 3);
        y.write(0, 0, 0);
        for (int call = 5; call < 512; call++) {
            y.told(0, 0);
        }
        Due.is("call 512", y.write(1, 0, 0), 1);
    }
}

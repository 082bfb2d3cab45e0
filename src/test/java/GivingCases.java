import java.util.Random;

/** Boundary cases of 'Terms': the line, what a member holds and can give, and the Order. */
final class GivingCases {
    private GivingCases() {
    }

    @Case("Terms, THE LINE: to each other MEMBER of its CIRCLE, the first and the last too")
    static void lineToAllOthers() {
        ReadingCircles x = Start.of(8, 255);
        x.write(3, 0, 0);
        Due.row("state(i, 0)", m -> x.state(m, 0), 1, 1, 1, 3, 1, 1, 1, 1);
    }

    @Case("Terms, THE LINE: not to MEMBERS outside its CIRCLE")
    static void lineToNoOutsider() {
        ReadingCircles x = Start.of(8, 66, 255);
        x.write(1, 0, 0);
        Due.row("state(i, 0)", m -> x.state(m, 0), 0, 3, 0, 0, 0, 0, 1, 0);
    }

    @Case("Terms, THE LINE: an ORDER is on it to each MEMBER of its CIRCLE but the ELDEST")
    static void lineOfOrder() {
        ReadingCircles x = Start.of(5, 30);
        x.seal(2, 0, -1);
        x.deliver(0, 1);
        Due.row("state(i, 1)", m -> x.state(m, 1), 0, 3, 1, 1, 1);
    }

    @Case("Terms, a LETTER is HELD by its writer, which GIVES it at once if it can")
    static void writerGivesAtOnce() {
        ReadingCircles x = Start.of(2, 3);
        x.write(1, 0, 0);
        Due.is("state(1, 0)", x.state(1, 0), 3);
        Due.is("read(1, 0)", x.read(1, 0), 0);
    }

    @Case("Terms, a LETTER is HELD by its writer while it can not GIVE it")
    static void writerHolds() {
        ReadingCircles x = Start.of(2, 3);
        x.seal(1, 0, -1);
        Due.is("state(1, 0)", x.state(1, 0), 2);
        Due.is("slot(1, 0)", x.slot(1, 0), 4);
        x.write(1, 0, 0);
        Due.is("state(1, 1) behind it", x.state(1, 1), 2);
    }

    @Case("Terms, a MEMBER GIVES of those that it HOLDS the one with the lowest number, not the first that came")
    static void lowestFirst() {
        ReadingCircles x = Start.of(4, 15);
        x.write(3, 0, 0);
        x.deliver(0, 0);
        x.deliver(0, 1);
        x.write(0, 0, 0);
        x.write(1, 0, 0);
        x.deliver(2, 2);
        x.deliver(1, 2);
        Due.is("deliver(0, 2)", x.deliver(0, 2), 3);
        Due.row("read(2, i)", i -> x.read(2, i), 0, 1, 2, -1);
    }

    @Case("Terms, a MEMBER GIVES of those that it HOLDS the one with the lowest number, not the last that came")
    static void lowestFirstOfMany() {
        ReadingCircles x = Start.of(8, 255);
        x.write(7, 0, 0);
        for (int writer = 0; writer < 6; writer++) {
            x.deliver(0, writer);
        }
        for (int writer = 0; writer < 6; writer++) {
            x.write(writer, 0, 5);
        }
        for (int letter : new int[] {3, 4, 1, 6, 5, 2}) {
            Due.is("deliver(" + letter + ", 6)", x.deliver(letter, 6), 0);
        }
        Due.is("deliver(0, 6)", x.deliver(0, 6), 7);
        Due.row("read(6, i)", i -> x.read(6, i), 0, 1, 2, 3, 4, 5, 6, -1);
    }

    @Case("Terms, a MEMBER GIVES the lowest again: one that it could not GIVE before comes first")
    static void lowestAgain() {
        ReadingCircles x = Start.of(3, 7);
        x.seal(1, 0, -1);
        x.deliver(0, 0);
        x.write(0, 0, 0);
        x.deliver(0, 2);
        x.deliver(2, 2);
        Due.is("the Order frees 0 and 2", x.deliver(1, 2), 3);
        Due.row("read(2, i)", i -> x.read(2, i), 1, 0, 2, -1);
    }

    @Case("Terms, a MEMBER GIVES till it can give none: one LETTER may bring all that it HOLDS")
    static void tillNone() {
        ReadingCircles x = Start.withHundredLetters();
        for (int letter = 99; letter > 0; letter--) {
            Due.is("deliver(" + letter + ", 1)", x.deliver(letter, 1), 0);
        }
        Due.is("deliver(0, 1)", x.deliver(0, 1), 100);
        Due.is("read(1, 99)", x.read(1, 99), 99);
    }

    @Case("Terms, a LETTER that is GIVEN is HELD no more")
    static void givenIsNotHeld() {
        ReadingCircles x = Start.of(2, 3);
        x.write(0, 0, 0);
        x.deliver(0, 1);
        Due.is("state(1, 0)", x.state(1, 0), 3);
        Due.is("slot(1, 0)", x.slot(1, 0), 0);
        Due.is("why(1, 0, 2)", x.why(1, 0, 2), -1);
    }

    @Case("Terms, CAN GIVE: GIVEN(r, c, w) is q - 1, one that is missing holds back")
    static void serialHoldsBack() {
        ReadingCircles x = Start.of(2, 3);
        x.write(0, 0, 0);
        x.write(0, 0, 0);
        x.write(0, 0, 0);
        Due.is("the second", x.deliver(1, 1), 0);
        Due.is("the first, then the second", x.deliver(0, 1), 2);
        Due.is("the third", x.deliver(2, 1), 1);
    }

    @Case("Terms, CAN GIVE: the SERIAL holds back where the CLOCK does not")
    static void serialWithoutClock() {
        ReadingCircles x = Start.of(3, 7);
        x.seal(1, 0, -1);
        x.write(1, 0, 0);
        Due.is("behind a Sealed one that its writer holds", x.deliver(1, 2), 0);
        Due.is("state(2, 1)", x.state(2, 1), 2);
    }

    @Case("Terms, CAN GIVE: a count that is one below the CLOCK's holds back, the same does not")
    static void clockHoldsBack() {
        ReadingCircles x = Start.of(3, 7);
        x.write(0, 0, 0);
        x.write(0, 0, 0);
        x.deliver(0, 1);
        x.deliver(1, 1);
        x.write(1, 0, 0);
        x.deliver(0, 2);
        Due.is("one of two is given", x.deliver(2, 2), 0);
        Due.is("the second", x.deliver(1, 2), 2);
    }

    @Case("Terms, CAN GIVE: a count above the CLOCK's does not hold back")
    static void moreThanTheClock() {
        ReadingCircles x = Start.of(3, 7);
        x.write(1, 0, 0);
        x.write(0, 0, 0);
        x.write(0, 0, 0);
        x.deliver(1, 2);
        x.deliver(2, 2);
        Due.is("deliver(0, 2)", x.deliver(0, 2), 1);
    }

    @Case("Terms, CAN GIVE: the first and the last MEMBER's counts hold back too")
    static void clockOfFirstAndLastMember() {
        ReadingCircles x = Start.of(8, 255);
        x.write(0, 0, 0);
        x.write(7, 0, 0);
        x.deliver(0, 1);
        x.write(1, 0, 0);
        x.deliver(1, 2);
        x.write(2, 0, 0);
        Due.is("behind member 0's", x.deliver(2, 3), 0);
        Due.is("behind member 7's", x.deliver(3, 3), 0);
        Due.is("member 0's", x.deliver(0, 3), 2);
        Due.is("member 7's", x.deliver(1, 3), 2);
    }

    @Case("Terms, CAN GIVE: CIRCLES that r is not in do not hold back")
    static void circlesOfOthers() {
        ReadingCircles x = Start.of(3, 3, 6);
        x.write(0, 0, 0);
        x.deliver(0, 1);
        x.write(1, 1, 0);
        Due.is("deliver(1, 2)", x.deliver(1, 2), 1);
    }

    @Case("Terms, CAN GIVE: all CIRCLES that have a ROW and that r is in hold back, the last too")
    static void circlesOfBoth() {
        ReadingCircles x = Start.of(3, 7, 7, 7, 7, 7, 7);
        x.write(0, 0, 0);
        x.write(0, 5, 0);
        x.deliver(0, 1);
        x.write(1, 3, 0);
        Due.is("behind one of circle 0", x.deliver(2, 2), 0);
        Due.is("that comes", x.deliver(0, 2), 2);
        x.deliver(1, 1);
        x.write(1, 3, 0);
        Due.is("behind one of circle 5", x.deliver(3, 2), 0);
        Due.is("that comes", x.deliver(1, 2), 2);
    }

    @Case("Terms, CAN GIVE: a CIRCLE without a ROW does not hold back, whatever its writer GIVES there later")
    static void circlesWithoutRow() {
        ReadingCircles x = Start.of(3, 7);
        x.write(0, 0, 0);
        x.circle(7);
        x.write(1, 1, 0);
        x.deliver(1, 0);
        Due.is("deliver(0, 2)", x.deliver(0, 2), 1);
    }

    @Case("Terms, CAN GIVE: the writer's own LETTERS to another CIRCLE hold back")
    static void writerInAnotherCircle() {
        ReadingCircles x = Start.of(2, 3, 3);
        x.write(0, 1, 0);
        x.write(0, 0, 0);
        Due.is("deliver(1, 1)", x.deliver(1, 1), 0);
        Due.is("deliver(0, 1)", x.deliver(0, 1), 2);
    }

    @Case("Terms, CAN GIVE: an ORDER behind what the SEALED one's writer had GIVEN")
    static void orderBehindSealedClock() {
        ReadingCircles x = Start.of(4, 15);
        x.write(3, 0, 0);
        x.deliver(0, 1);
        x.seal(1, 0, -1);
        x.deliver(0, 0);
        x.deliver(1, 0);
        Due.is("the Order alone", x.deliver(2, 2), 0);
        Due.is("what the Sealed one's writer had given", x.deliver(0, 2), 2);
    }

    @Case("Terms, CAN GIVE: an ORDER not behind what the ELDEST alone had GIVEN")
    static void orderNotBehindEldestClock() {
        ReadingCircles x = Start.of(4, 15);
        x.write(3, 0, 0);
        x.seal(1, 0, -1);
        x.deliver(0, 0);
        x.deliver(1, 0);
        Due.is("the Order", x.deliver(2, 2), 1);
        Due.is("and its Sealed one", x.deliver(1, 2), 1);
    }

    @Case("Terms, CAN GIVE: a SEALED one not before the ORDER that names it, by any but the ELDEST")
    static void sealedBehindOrder() {
        ReadingCircles x = Start.of(3, 7);
        x.seal(1, 0, -1);
        Due.is("without it", x.deliver(0, 2), 0);
        x.deliver(0, 0);
        Due.is("while it is on the line", x.state(2, 0), 2);
        Due.is("its writer waits too", x.state(1, 0), 2);
        Due.is("it comes", x.deliver(1, 2), 2);
        Due.is("it comes to the writer", x.deliver(1, 1), 2);
    }

    @Case("Terms, CAN GIVE: a SEALED one not behind another's ORDER")
    static void sealedBehindItsOwnOrder() {
        ReadingCircles x = Start.of(4, 15);
        x.seal(1, 0, -1);
        x.seal(2, 0, -1);
        x.deliver(0, 0);
        x.deliver(1, 0);
        x.deliver(0, 3);
        x.deliver(1, 3);
        Due.is("the first Order frees the first alone", x.deliver(2, 3), 2);
        Due.is("state(3, 1)", x.state(3, 1), 2);
    }

    @Case("Terms, CAN GIVE: an ORDER that is HELD and not GIVEN does not free its SEALED one")
    static void orderThatIsHeld() {
        ReadingCircles x = Start.of(3, 7);
        x.write(0, 0, 0);
        x.seal(1, 0, -1);
        x.deliver(1, 0);
        x.deliver(1, 2);
        Due.is("the Order waits for the eldest's first", x.deliver(2, 2), 0);
        Due.is("state(2, 1)", x.state(2, 1), 2);
        Due.is("that comes", x.deliver(0, 2), 3);
        Due.row("read(2, i)", i -> x.read(2, i), 0, 2, 1, -1);
    }

    @Case("Terms, CAN GIVE: the ELDEST needs no ORDER and no lower NUMBER")
    static void eldestNeedsNone() {
        ReadingCircles x = Start.of(3, 7);
        x.seal(1, 0, -1);
        x.seal(2, 0, -1);
        Due.is("the later one", x.deliver(1, 0), 2);
        Due.is("the earlier one", x.deliver(0, 0), 2);
    }

    @Case("Terms, CAN GIVE: a SEALED one that the ELDEST wrote needs no ORDER")
    static void eldestsOwn() {
        ReadingCircles x = Start.of(3, 7);
        x.seal(0, 0, -1);
        Due.is("deliver(0, 2)", x.deliver(0, 2), 1);
        Due.is("the Order is on the line", x.state(2, 1), 1);
    }

    @Case("Terms, CAN GIVE: the ELDEST of another CIRCLE alone is not free of the ORDER")
    static void eldestOfAnotherCircle() {
        ReadingCircles x = Start.of(3, 6, 7);
        x.seal(1, 1, -1);
        Due.is("its writer holds it", x.state(1, 0), 2);
        Due.is("another does", x.deliver(0, 2), 0);
        Due.is("told(0, 5)", x.told(0, 5), -1);
    }

    @Case("Terms, CAN GIVE: all SEALED LETTERS to c with lower NUMBERS come before, whatever their own numbers")
    static void lowerNumbersFirst() {
        ReadingCircles x = Start.of(4, 15);
        x.seal(1, 0, -1);
        x.seal(2, 0, -1);
        x.deliver(1, 0);
        x.deliver(0, 0);
        x.deliver(0, 3);
        x.deliver(2, 3);
        Due.is("both Orders are given", x.deliver(3, 3), 1);
        Due.is("letter 0 with number 1 waits", x.state(3, 0), 2);
        Due.is("letter 1 with number 0", x.deliver(1, 3), 2);
        Due.row("read(3, i)", i -> x.read(3, i), 2, 3, 1, 0, -1);
    }

    @Case("Terms, CAN GIVE: SEALED LETTERS to other CIRCLES with lower NUMBERS need not come before")
    static void lowerNumbersOfOtherCircles() {
        ReadingCircles x = Start.of(4, 15, 15);
        x.seal(1, 1, -1);
        x.seal(2, 0, -1);
        x.seal(2, 0, -1);
        x.deliver(0, 0);
        x.deliver(1, 0);
        x.deliver(2, 0);
        Due.is("number in circle 1", x.told(0, 5), 0);
        Due.is("number in circle 0", x.told(2, 5), 1);
        x.deliver(1, 3);
        x.deliver(2, 3);
        Due.is("the Order of number 0", x.deliver(4, 3), 2);
        Due.is("the Order of number 1", x.deliver(5, 3), 2);
    }

    @Case("Terms, CAN GIVE: SEALED LETTERS to other CIRCLES do not stand for those to c with lower NUMBERS")
    static void lowerNumbersOfThisCircle() {
        ReadingCircles x = Start.of(4, 15, 15);
        x.seal(0, 1, -1);
        x.deliver(0, 3);
        x.deliver(1, 3);
        x.seal(1, 0, -1);
        x.seal(2, 0, -1);
        x.deliver(2, 0);
        x.deliver(3, 0);
        x.deliver(4, 3);
        x.deliver(5, 3);
        Due.is("number 1 of circle 0", x.told(3, 5), 1);
        Due.is("given in circle 1", x.state(3, 0), 3);
        Due.is("deliver(3, 3)", x.deliver(3, 3), 0);
        Due.is("why(3, 3, 2)", x.why(3, 3, 2), 1);
        Due.is("number 0 of circle 0", x.deliver(2, 3), 2);
    }

    @Case("Terms, SEALED ones in one order by all, whatever the lines do")
    static void oneOrderByAll() {
        for (int seed = 0; seed < 40; seed++) {
            ReadingCircles x = Start.of(4, 15);
            for (int i = 0; i < 6; i++) {
                x.seal(i % 4, 0, -1);
            }
            Random random = new Random(seed);
            for (int i = 0; i < 60; i++) {
                x.deliver(random.nextInt(x.count(2)), random.nextInt(4));
            }
            x.deliverAll(0, seed % 2);
            for (int member = 0; member < 4; member++) {
                int next = 0;
                for (int i = 0; i < 12; i++) {
                    int letter = x.read(member, i);
                    if (x.told(letter, 0) == 2) {
                        Due.is("seed " + seed + ", member " + member, x.told(letter, 5), next);
                        next++;
                    }
                }
                Due.is("seed " + seed + ", member " + member + ": how many", next, 6);
            }
        }
    }

    @Case("Terms, THE ORDER: when the ELDEST GIVES, not when others do")
    static void noOrderByOthers() {
        ReadingCircles x = Start.of(4, 7, 14);
        x.seal(1, 0, -1);
        x.deliver(0, 2);
        Due.is("no number", x.told(0, 5), -1);
        Due.is("no Order", x.count(2), 1);
        x.deliverAll(0, 0);
        Due.is("one Order, though three gave it", x.count(2), 2);
        Due.is("circleTold(0, 2)", x.circleTold(0, 2), 1);
    }

    @Case("Terms, THE ORDER: not when the ELDEST comes to HOLD the SEALED one and can not GIVE it")
    static void noOrderWhileHeld() {
        ReadingCircles x = Start.of(2, 3);
        x.write(1, 0, 0);
        x.seal(1, 0, -1);
        x.deliver(1, 0);
        Due.is("told(1, 5)", x.told(1, 5), -1);
        Due.is("count(2)", x.count(2), 2);
        Due.is("deliver(0, 0)", x.deliver(0, 0), 3);
        Due.is("told(1, 5)", x.told(1, 5), 0);
    }

    @Case("Terms, THE ORDER: LETTERS of other KINDS get no NUMBER and no ORDER")
    static void noOrderForOtherKinds() {
        ReadingCircles x = Start.of(2, 3);
        x.write(0, 0, 0);
        x.write(0, 0, 4);
        x.write(0, 0, 5);
        x.reply(0, 0, 0);
        Due.is("count(2)", x.count(2), 4);
        Due.row("told(i, 5)", l -> x.told(l, 5), -1, -1, -1, -1);
    }

    @Case("Terms, THE ORDER: the NUMBERS of each CIRCLE are 0, 1, ..")
    static void numbersByCircle() {
        ReadingCircles x = Start.of(2, 3, 3);
        x.seal(0, 0, -1);
        x.seal(0, 0, -1);
        x.seal(0, 1, -1);
        x.seal(0, 0, -1);
        Due.row("told(i, 5)", l -> x.told(l, 5), 0, -1, 1, -1, 0, -1, 2, -1);
        Due.is("circleTold(0, 2)", x.circleTold(0, 2), 3);
        Due.is("circleTold(1, 2)", x.circleTold(1, 2), 1);
    }

    @Case("Terms, THE ORDER: to c by e, names the SEALED one, is e's next SERIAL")
    static void orderItself() {
        ReadingCircles x = Start.of(4, 12, 14);
        x.write(1, 1, 0);
        x.seal(3, 1, -1);
        x.deliver(1, 1);
        Due.row("told(2, i)", what -> x.told(2, what), 3, 1, 1, 2, 1, -1);
    }

    @Case("Terms, THE ORDER: it is GIVEN in its turn, behind SEALED ones with lower numbers")
    static void orderInItsTurn() {
        ReadingCircles x = Start.of(2, 3);
        x.write(1, 0, 0);
        x.seal(1, 0, -1);
        x.seal(1, 0, -1);
        x.deliver(1, 0);
        x.deliver(2, 0);
        Due.is("deliver(0, 0)", x.deliver(0, 0), 5);
        Due.row("read(0, i)", i -> x.read(0, i), 0, 1, 2, 3, 4, -1);
        Due.is("letter 3 names 1", x.told(3, 4), 1);
        Due.is("letter 4 names 2", x.told(4, 4), 2);
    }
}

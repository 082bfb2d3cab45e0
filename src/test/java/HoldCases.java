/** Boundary cases of THE HOLD, and of promises 22 and 23. */
final class HoldCases {
    private static final int NOTHING = 0;
    private static final int CLOCK = 1;
    private static final int NOTE = 2;
    private static final int SEALED = 2 + 2;
    private static final int VIEW = 2 + 4;
    private static final int FLUSH = 2 + 5;

    private HoldCases() {
    }

    /** Letters 0, 1 by member 0, 2, 3 by 1, 4, 5 by 2; 1 a Note, 3 a View, 5 a Flush wait for those before. */
    private static ReadingCircles pairsOfLetters() {
        ReadingCircles x = Start.of(4, 15);
        x.write(0, 0, 0);
        x.write(0, 0, 0);
        x.write(1, 0, 0);
        x.write(1, 0, 4);
        x.write(2, 0, 0);
        x.write(2, 0, 5);
        return x;
    }

    /** Slots 1 to 39 of member 3 have bare clocks. */
    private static ReadingCircles oneSlotFree() {
        ReadingCircles x = pairsOfLetters();
        for (int slot = 1; slot < 40; slot++) {
            x.bare(3, slot, 0);
        }
        return x;
    }

    @Case("Terms, THE HOLD: in the order in which they came, from 0 on, not by their numbers")
    static void slotsInOrderOfComing() {
        ReadingCircles x = pairsOfLetters();
        x.deliver(5, 3);
        x.deliver(1, 3);
        x.deliver(3, 3);
        Due.row("slot(3, i)", i -> x.slot(3, i), FLUSH, NOTE, VIEW, NOTHING);
    }

    @Case("Terms, THE HOLD: a LETTER that is GIVEN leaves its SLOT to nothing, the others stay where they are")
    static void givenLeavesItsSlot() {
        ReadingCircles x = pairsOfLetters();
        x.deliver(1, 3);
        x.deliver(3, 3);
        x.deliver(5, 3);
        x.deliver(2, 3);
        Due.row("slot(3, i)", i -> x.slot(3, i), NOTE, NOTHING, FLUSH, NOTHING);
        x.deliver(0, 3);
        Due.row("slot(3, i)", i -> x.slot(3, i), NOTHING, NOTHING, FLUSH, NOTHING);
    }

    @Case("Terms, THE HOLD: the next that comes takes the first SLOT without a THING, not the last")
    static void firstFreeSlot() {
        ReadingCircles x = pairsOfLetters();
        x.deliver(1, 3);
        x.deliver(3, 3);
        x.deliver(0, 3);
        Due.row("slot(3, i)", i -> x.slot(3, i), NOTHING, VIEW, NOTHING);
        x.deliver(5, 3);
        Due.row("slot(3, i)", i -> x.slot(3, i), FLUSH, VIEW, NOTHING);
    }

    @Case("Terms, THE HOLD: a LETTER passes SLOTS with bare CLOCKS over")
    static void letterPassesClocks() {
        ReadingCircles x = pairsOfLetters();
        x.bare(3, 0, 0);
        x.bare(3, 2, 0);
        x.deliver(3, 3);
        x.deliver(5, 3);
        Due.row("slot(3, i)", i -> x.slot(3, i), CLOCK, VIEW, CLOCK, FLUSH, NOTHING);
    }

    @Case("Terms, THE HOLD: the last SLOT is 39, a LETTER takes it when it alone is free")
    static void lastSlot() {
        ReadingCircles x = pairsOfLetters();
        for (int slot = 0; slot < 39; slot++) {
            x.bare(3, slot, 0);
        }
        x.deliver(5, 3);
        Due.is("slot(3, 38)", x.slot(3, 38), CLOCK);
        Due.is("slot(3, 39)", x.slot(3, 39), FLUSH);
    }

    @Case("Terms, THE HOLD: 40 LETTERS that wait have a SLOT each, the next is HELD without a SLOT")
    static void fortyLetters() {
        ReadingCircles x = Start.of(2, 3);
        for (int i = 0; i < 43; i++) {
            x.write(0, 0, i < 40 ? 0 : 5);
        }
        for (int letter = 1; letter < 43; letter++) {
            x.deliver(letter, 1);
        }
        Due.is("slot(1, 38)", x.slot(1, 38), NOTE);
        Due.is("slot(1, 39)", x.slot(1, 39), FLUSH);
        Due.is("state(1, 40)", x.state(1, 40), 2);
        Due.is("state(1, 41)", x.state(1, 41), 2);
        Due.is("state(1, 42)", x.state(1, 42), 2);
        Due.is("why(1, 42, 2)", x.why(1, 42, 2), 42);
        Due.is("all are given", x.deliver(0, 1), 43);
        for (int slot = 0; slot < 40; slot++) {
            Due.is("slot(1, " + slot + ")", x.slot(1, slot), NOTHING);
        }
    }

    @Case("Terms, THE HOLD: without a free SLOT a LETTER comes, is HELD and is GIVEN as any")
    static void givenWithoutSlot() {
        ReadingCircles x = oneSlotFree();
        x.bare(3, 0, 0);
        Due.done("deliver(3, 3)", x, x.deliver(3, 3), 0);
        Due.is("state(3, 3)", x.state(3, 3), 2);
        Due.done("deliver(2, 3)", x, x.deliver(2, 3), 2);
        Due.row("read(3, i)", i -> x.read(3, i), 2, 3, -1);
        for (int slot = 0; slot < 40; slot++) {
            Due.is("slot(3, " + slot + ")", x.slot(3, slot), CLOCK);
        }
    }

    @Case("Terms, THE HOLD: a LETTER HELD without a SLOT takes none when one gets free, the next that comes does")
    static void withoutSlotForGood() {
        ReadingCircles x = oneSlotFree();
        x.deliver(1, 3);
        x.deliver(3, 3);
        Due.is("slot(3, 0)", x.slot(3, 0), NOTE);
        Due.done("deliver(0, 3)", x, x.deliver(0, 3), 2);
        Due.is("slot(3, 0)", x.slot(3, 0), NOTHING);
        Due.is("state(3, 3)", x.state(3, 3), 2);
        x.deliver(5, 3);
        Due.is("slot(3, 0)", x.slot(3, 0), FLUSH);
        Due.done("deliver(2, 3)", x, x.deliver(2, 3), 2);
        Due.is("slot(3, 0)", x.slot(3, 0), FLUSH);
    }

    @Case("Terms, THE HOLD: what its writer HOLDS has a SLOT of the writer's, what it GIVES at once has none")
    static void slotsOfTheWriter() {
        ReadingCircles x = Start.of(3, 7);
        x.write(1, 0, 0);
        Due.is("slot(1, 0)", x.slot(1, 0), NOTHING);
        x.seal(1, 0, -1);
        x.write(1, 0, 5);
        Due.row("slot(1, i)", i -> x.slot(1, i), SEALED, FLUSH, NOTHING);
        Due.is("slot(0, 0)", x.slot(0, 0), NOTHING);
        Due.is("slot(2, 0)", x.slot(2, 0), NOTHING);
    }

    @Case("Terms, THE HOLD: each MEMBER has its own")
    static void slotsByMember() {
        ReadingCircles x = pairsOfLetters();
        x.deliver(1, 3);
        x.bare(2, 39, 0);
        Due.is("slot(2, 0)", x.slot(2, 0), NOTHING);
        Due.is("slot(3, 39)", x.slot(3, 39), NOTHING);
        Due.is("slot(3, 0)", x.slot(3, 0), NOTE);
        Due.is("slot(2, 39)", x.slot(2, 39), CLOCK);
    }

    @Case("Promise 22, answers 1: into the first SLOT and the last")
    static void bareIntoSlots() {
        ReadingCircles x = pairsOfLetters();
        Due.done("bare(0, 0, 0)", x, x.bare(0, 0, 0), 1);
        Due.done("bare(0, 39, 5)", x, x.bare(0, 39, 5), 1);
        Due.is("slot(0, 0)", x.slot(0, 0), CLOCK);
        Due.is("slot(0, 1)", x.slot(0, 1), NOTHING);
        Due.is("slot(0, 39)", x.slot(0, 39), CLOCK);
    }

    @Case("Promise 22, the CLOCK of any LETTER: one that the MEMBER has nothing to do with, an ORDER, one again")
    static void bareOfAnyLetter() {
        ReadingCircles x = Start.of(3, 3);
        x.seal(0, 0, -1);
        Due.done("of another circle", x, x.bare(2, 0, 0), 1);
        Due.done("of an Order", x, x.bare(2, 1, 1), 1);
        Due.done("of the same", x, x.bare(2, 2, 0), 1);
        Due.row("slot(2, i)", i -> x.slot(2, i), CLOCK, CLOCK, CLOCK, NOTHING);
    }

    @Case("Promise 22, a bare CLOCK is no LETTER: nothing is HELD or GIVEN by it")
    static void bareIsNoLetter() {
        ReadingCircles x = Start.of(2, 3);
        x.write(0, 0, 0);
        x.bare(1, 0, 0);
        Due.is("state(1, 0)", x.state(1, 0), 1);
        Due.is("read(1, 0)", x.read(1, 0), -1);
        Due.is("late(1)", x.late(1), 1);
        x.deliver(0, 1);
        Due.is("the letter is given, the clock stays", x.slot(1, 0), CLOCK);
    }

    @Case("Promise 22, STATUS 1: no such MEMBER")
    static void bareToNone() {
        ReadingCircles x = pairsOfLetters();
        for (int wrong : new int[] {-1, 4, 8, Start.LOW, Start.HIGH}) {
            Due.refused("bare(" + wrong + ", 0, 0)", x, x.bare(wrong, 0, 0), 1);
        }
    }

    @Case("Promise 22, STATUS 1: no such SLOT")
    static void bareIntoNone() {
        ReadingCircles x = pairsOfLetters();
        for (int wrong : new int[] {-1, 40, 41, Start.LOW, Start.HIGH}) {
            Due.refused("bare(0, " + wrong + ", 0)", x, x.bare(0, wrong, 0), 1);
        }
    }

    @Case("Promise 22, STATUS 1: no such LETTER")
    static void bareOfNone() {
        ReadingCircles x = pairsOfLetters();
        for (int wrong : new int[] {-1, 6, 200, Start.LOW, Start.HIGH}) {
            Due.refused("bare(0, 0, " + wrong + ")", x, x.bare(0, 0, wrong), 1);
        }
        Due.is("slot(0, 0)", x.slot(0, 0), NOTHING);
    }

    @Case("Promise 22, STATUS 3: the SLOT has a bare CLOCK, which stays")
    static void bareOntoClock() {
        ReadingCircles x = Start.of(2, 3);
        x.write(0, 0, 0);
        x.write(0, 0, 0);
        x.bare(1, 0, 1);
        Due.refused("bare(1, 0, 0)", x, x.bare(1, 0, 0), 3);
        Due.is("the count of the one that was there", x.forge(1, 0, 1, 0), 1);
    }

    @Case("Promise 22, STATUS 3: the SLOT has a LETTER, which stays")
    static void bareOntoLetter() {
        ReadingCircles x = pairsOfLetters();
        x.deliver(3, 3);
        Due.refused("bare(3, 0, 0)", x, x.bare(3, 0, 0), 3);
        Due.is("slot(3, 0)", x.slot(3, 0), VIEW);
        x.deliver(2, 3);
        Due.done("when the letter has left", x, x.bare(3, 0, 0), 1);
    }

    @Case("Promise 22, STATUS 1 before 3")
    static void bareNoSuchBeforeNotSo() {
        ReadingCircles x = pairsOfLetters();
        x.bare(3, 0, 0);
        Due.refused("bare(3, 0, 6)", x, x.bare(3, 0, 6), 1);
        Due.refused("bare(3, 0, -1)", x, x.bare(3, 0, -1), 1);
    }

    @Case("Promise 23, 0 nothing, 1 a bare CLOCK, 2 + the KIND of a LETTER of each KIND")
    static void slotOfKinds() {
        ReadingCircles x = Start.withSlotsOfAllKinds();
        x.bare(1, 7, 0);
        Due.row("slot(1, i)", i -> x.slot(1, i), 2, 3, 4, 5, 6, 7, 0, 1, 0);
    }

    @Case("Promise 23, the first SLOT and the last are such")
    static void slotOfEnds() {
        ReadingCircles x = Start.of(8);
        Due.is("slot(7, 0)", x.slot(7, 0), 0);
        Due.is("slot(7, 39)", x.slot(7, 39), 0);
    }

    @Case("Promise 23, -1: no such")
    static void slotOfNone() {
        ReadingCircles x = Start.of(2, 3);
        for (int wrong : new int[] {-1, 2, 8, Start.LOW, Start.HIGH}) {
            Due.is("slot(" + wrong + ", 0)", x.slot(wrong, 0), -1);
        }
        for (int wrong : new int[] {-1, 40, 41, Start.LOW, Start.HIGH}) {
            Due.is("slot(0, " + wrong + ")", x.slot(0, wrong), -1);
        }
    }
}

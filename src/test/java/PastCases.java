/** Boundary cases of BEHIND, and of promises 17 to 19 that ask for it. */
final class PastCases {
    private PastCases() {
    }

    @Case("Terms, BEHIND: its writer had written it, though not GIVEN")
    static void behindWhatItWrote() {
        ReadingCircles x = Start.of(2, 3);
        x.seal(1, 0, -1);
        x.write(1, 0, 0);
        Due.is("state(1, 0)", x.state(1, 0), 2);
        Due.is("behind(0, 1)", x.behind(0, 1), 1);
    }

    @Case("Terms, BEHIND: its writer had GIVEN it")
    static void behindWhatItGave() {
        ReadingCircles x = Start.of(2, 3);
        x.write(0, 0, 0);
        x.deliver(0, 1);
        x.write(1, 0, 0);
        Due.is("behind(0, 1)", x.behind(0, 1), 1);
    }

    @Case("Terms, BEHIND: not if its writer HELD it or it was on THE LINE")
    static void notBehindWhatItHeld() {
        ReadingCircles x = Start.of(2, 3);
        x.write(0, 0, 0);
        x.write(0, 0, 0);
        x.deliver(1, 1);
        x.write(1, 0, 0);
        Due.is("on the line", x.behind(0, 2), 0);
        Due.is("held", x.behind(1, 2), 0);
    }

    @Case("Terms, BEHIND: when it wrote b, not what it GAVE later")
    static void notBehindWhatCameLater() {
        ReadingCircles x = Start.of(2, 3);
        x.write(0, 0, 0);
        x.write(1, 0, 0);
        x.deliver(0, 1);
        x.write(1, 0, 0);
        Due.is("the earlier", x.behind(0, 1), 0);
        Due.is("the later", x.behind(0, 2), 1);
    }

    @Case("Terms, BEHIND: one that is BEHIND a, also of a CIRCLE that its writer is not in")
    static void behindByWayOfOthers() {
        ReadingCircles x = Start.of(4, 3, 6, 12);
        x.write(0, 0, 0);
        x.deliver(0, 1);
        x.write(1, 1, 0);
        x.deliver(1, 2);
        x.write(2, 2, 0);
        x.deliver(2, 3);
        x.write(3, 2, 0);
        Due.is("by one", x.behind(0, 2), 1);
        Due.is("by two", x.behind(0, 3), 1);
    }

    @Case("Terms, BEHIND: by way of one that another had written and not GIVEN")
    static void behindByWayOfHeldOnes() {
        ReadingCircles x = Start.of(3, 7, 6);
        x.seal(1, 0, -1);
        x.write(1, 1, 0);
        x.deliver(1, 2);
        x.write(2, 1, 0);
        Due.is("state(1, 0)", x.state(1, 0), 2);
        Due.is("behind(0, 2)", x.behind(0, 2), 1);
    }

    @Case("Terms, BEHIND: an ORDER is BEHIND the SEALED one that it names")
    static void orderBehindSealed() {
        ReadingCircles x = Start.of(2, 3);
        x.write(0, 0, 0);
        x.seal(1, 0, -1);
        x.deliver(1, 0);
        Due.is("told(2, 4)", x.told(2, 4), 1);
        Due.is("behind(1, 2)", x.behind(1, 2), 1);
        Due.is("and what the eldest wrote", x.behind(0, 2), 1);
        Due.is("the Sealed one is not", x.behind(0, 1), 0);
    }

    @Case("Terms, BEHIND: an ORDER that waits its turn is BEHIND all that the ELDEST had GIVEN, and written, till then")
    static void orderBehindEarlierOrder() {
        ReadingCircles x = Start.of(2, 3);
        x.write(1, 0, 0);
        x.seal(1, 0, -1);
        x.seal(1, 0, -1);
        x.deliver(1, 0);
        x.deliver(2, 0);
        x.deliver(0, 0);
        Due.is("the first Order behind the second Sealed one", x.behind(2, 3), 0);
        Due.is("the second Order behind the first Order", x.behind(3, 4), 1);
        Due.is("past(3)", x.past(3), 2);
        Due.is("past(4)", x.past(4), 4);
    }

    @Case("Promise 17, 0: not BEHIND itself, nor before what is BEHIND it, nor of no account to each other")
    static void notBehind() {
        ReadingCircles x = Start.of(2, 3);
        x.write(0, 0, 0);
        x.write(0, 0, 0);
        x.write(1, 0, 0);
        Due.is("itself", x.behind(1, 1), 0);
        Due.is("the other way", x.behind(1, 0), 0);
        Due.is("this way", x.behind(0, 1), 1);
        Due.is("neither", x.behind(0, 2), 0);
        Due.is("nor", x.behind(2, 0), 0);
    }

    @Case("Promise 17, the last LETTER there can be is BEHIND the first")
    static void lastBehindFirst() {
        ReadingCircles x = sealedByEldest();
        Due.is("behind(0, 199)", x.behind(0, 199), 1);
        Due.is("behind(198, 199)", x.behind(198, 199), 1);
        Due.is("behind(199, 0)", x.behind(199, 0), 0);
        Due.is("behind(199, 199)", x.behind(199, 199), 0);
    }

    @Case("Promise 17, -1: no such")
    static void behindNone() {
        ReadingCircles x = Start.of(2, 3);
        Due.is("behind(0, 0) before any", x.behind(0, 0), -1);
        x.write(0, 0, 0);
        for (int wrong : new int[] {-1, 1, 199, 200, Start.LOW, Start.HIGH}) {
            Due.is("behind(" + wrong + ", 0)", x.behind(wrong, 0), -1);
            Due.is("behind(0, " + wrong + ")", x.behind(0, wrong), -1);
        }
    }

    /** Two hundred letters, each behind all before it. */
    private static ReadingCircles sealedByEldest() {
        ReadingCircles x = Start.of(2, 3);
        for (int i = 0; i < 100; i++) {
            x.seal(0, 0, -1);
        }
        return x;
    }

    /** Letter 3 is behind 1 and 2, both are behind 0; 4 is behind none. */
    private static ReadingCircles diamond() {
        ReadingCircles x = Start.of(4, 15);
        x.write(0, 0, 0);
        x.deliver(0, 1);
        x.deliver(0, 2);
        x.write(1, 0, 0);
        x.write(2, 0, 0);
        x.deliver(0, 0);
        x.deliver(1, 0);
        x.deliver(2, 0);
        x.write(0, 0, 0);
        x.write(3, 0, 0);
        return x;
    }

    @Case("Promise 18, none: 0, and each one counted once, whatever ways lead to it")
    static void pastOnce() {
        ReadingCircles x = diamond();
        Due.row("past(i)", x::past, 0, 1, 1, 3, 0);
    }

    @Case("Promise 18, as many as there can be: 199")
    static void pastOfTheMost() {
        ReadingCircles x = sealedByEldest();
        Due.is("past(0)", x.past(0), 0);
        Due.is("past(199)", x.past(199), 199);
    }

    @Case("Promise 18, -1: no such")
    static void pastOfNone() {
        ReadingCircles x = Start.of(2, 3);
        Due.is("past(0) before any", x.past(0), -1);
        x.write(0, 0, 0);
        for (int wrong : new int[] {-1, 1, 200, Start.LOW, Start.HIGH}) {
            Due.is("past(" + wrong + ")", x.past(wrong), -1);
        }
    }

    @Case("Promise 19, both counted: 2 where none is between")
    static void chainOfTwo() {
        ReadingCircles x = diamond();
        Due.is("chain(0, 1)", x.chain(0, 1), 2);
        Due.is("chain(2, 3)", x.chain(2, 3), 2);
    }

    @Case("Promise 19, the longest row: those beside each other are not both in it")
    static void chainOfDiamond() {
        ReadingCircles x = diamond();
        Due.is("chain(0, 3)", x.chain(0, 3), 3);
    }

    @Case("Promise 19, the longest row: the longer of two ways")
    static void chainOfLongerWay() {
        ReadingCircles x = Start.of(4, 15);
        x.write(0, 0, 0);
        x.deliver(0, 1);
        x.deliver(0, 2);
        x.write(1, 0, 0);
        x.write(1, 0, 0);
        x.write(2, 0, 0);
        for (int letter = 0; letter < 4; letter++) {
            x.deliver(letter, 3);
        }
        x.write(3, 0, 0);
        Due.is("chain(0, 4)", x.chain(0, 4), 4);
        Due.is("chain(3, 4)", x.chain(3, 4), 2);
    }

    @Case("Promise 19, the row begins with a: what a is BEHIND of is not in it")
    static void chainFromWithin() {
        ReadingCircles x = sealedByEldest();
        Due.is("chain(0, 199) before", x.chain(0, 199), 200);
        Due.is("chain(197, 199)", x.chain(197, 199), 3);
        Due.is("chain(0, 2)", x.chain(0, 2), 3);
    }

    @Case("Promise 19, the row begins with a: a longer row to b that does not is not taken")
    static void chainNotFromElsewhere() {
        ReadingCircles x = Start.of(3, 7);
        x.write(0, 0, 0);
        for (int i = 0; i < 3; i++) {
            x.write(1, 0, 0);
        }
        for (int letter = 0; letter < 4; letter++) {
            x.deliver(letter, 2);
        }
        x.write(2, 0, 0);
        Due.is("chain(0, 4)", x.chain(0, 4), 2);
        Due.is("chain(1, 4)", x.chain(1, 4), 4);
    }

    @Case("Promise 19, 0: b is not BEHIND a, not itself, not the other way, though numbers between are")
    static void chainOfNone() {
        ReadingCircles x = diamond();
        Due.is("itself", x.chain(1, 1), 0);
        Due.is("the other way", x.chain(3, 0), 0);
        Due.is("beside", x.chain(1, 2), 0);
        Due.is("behind none", x.chain(0, 4), 0);
        Due.is("the last and itself", x.chain(4, 4), 0);
    }

    @Case("Promise 19, -1: no such")
    static void chainWithNone() {
        ReadingCircles x = Start.of(2, 3);
        Due.is("chain(0, 0) before any", x.chain(0, 0), -1);
        x.write(0, 0, 0);
        for (int wrong : new int[] {-1, 1, 199, 200, Start.LOW, Start.HIGH}) {
            Due.is("chain(" + wrong + ", 0)", x.chain(wrong, 0), -1);
            Due.is("chain(0, " + wrong + ")", x.chain(0, wrong), -1);
        }
    }
}

/** Boundary cases of promise 24: what the host does with the thing of a slot. */
final class ForgeCases {
    private static final int LOW = Start.LOW;
    private static final int HIGH = Start.HIGH;
    private static final int FIRST_FREE = 6;

    private ForgeCases() {
    }

    /** A call that is refused stands before it, so that its own status is seen. */
    private static void done(ReadingCircles x, int member, int slot, int what, int n, int want) {
        x.circle(0);
        Due.done(named(member, slot, what, n), x, x.forge(member, slot, what, n), want);
    }

    /** A call that is done stands before it, so that its own status is seen. */
    private static void refused(ReadingCircles x, int member, int slot, int what, int n, int status) {
        x.forge(0, 0, 3, 0);
        Due.refused(named(member, slot, what, n), x, x.forge(member, slot, what, n), status);
    }

    private static String named(int member, int slot, int what, int n) {
        return "forge(" + member + ", " + slot + ", " + what + ", " + n + ")";
    }

    /** Slots 0 to 5 of member 1 have letters of kinds 0 to 5, slot 7 has a bare clock. */
    private static ReadingCircles withAllThings() {
        ReadingCircles x = Start.withSlotsOfAllKinds();
        x.bare(1, 7, 0);
        return x;
    }

    @Case("Promise 24, STATUS 1: another what; the first is 0, the last is 7")
    static void anotherWhat() {
        ReadingCircles x = withAllThings();
        for (int wrong : new int[] {-1, 8, 9, LOW, HIGH}) {
            for (int slot = 0; slot < 8; slot++) {
                refused(x, 1, slot, wrong, 1, 1);
            }
        }
        done(x, 1, 0, 0, 0, 2);
        done(x, 1, 0, 7, 1, 1);
    }

    @Case("Promise 24, STATUS 1: no such MEMBER, whatever is asked")
    static void noMember() {
        ReadingCircles x = withAllThings();
        for (int what = 0; what < 8; what++) {
            for (int wrong : new int[] {-1, 2, 8, LOW, HIGH}) {
                refused(x, wrong, 0, what, 1, 1);
            }
        }
    }

    @Case("Promise 24, STATUS 1: no such SLOT, whatever is asked; the last is 39")
    static void noSlot() {
        ReadingCircles x = withAllThings();
        for (int what = 0; what < 8; what++) {
            for (int wrong : new int[] {-1, 40, 41, LOW, HIGH}) {
                refused(x, 1, wrong, what, 1, 1);
            }
        }
        done(x, 1, 39, 3, 1, 1);
    }

    @Case("Promise 24, STATUS 1: n outside -100 .. 100, whatever is asked, before all other refusals")
    static void farN() {
        ReadingCircles x = withAllThings();
        for (int what = 0; what < 8; what++) {
            for (int wrong : new int[] {-101, 101, -102, 102, LOW, HIGH}) {
                refused(x, 1, 0, what, wrong, 1);
                refused(x, 1, FIRST_FREE, what, wrong, 1);
                refused(x, 1, 7, what, wrong, 1);
            }
        }
    }

    @Case("Promise 24, n of -100 and of 100 are within")
    static void lastN() {
        ReadingCircles x = withAllThings();
        done(x, 1, 2, 0, -100, 4);
        done(x, 1, 4, 0, 100, 6);
        refused(x, 1, 7, 1, 100, 12);
        refused(x, 1, 7, 1, -100, 12);
        refused(x, 1, 7, 2, 100, 12);
        refused(x, 1, 7, 2, -100, 12);
        done(x, 1, 0, 3, 100, 100);
        refused(x, 1, 0, 3, -100, 13);
        refused(x, 1, 7, 4, 100, 12);
        refused(x, 1, 7, 4, -100, 12);
        done(x, 1, 1, 5, 100, 1);
        done(x, 1, 1, 5, -100, 1);
        done(x, 1, 0, 6, 100, 1);
        done(x, 1, 0, 6, -100, -1);
        refused(x, 1, 0, 7, 100, 10);
        refused(x, 1, 0, 7, -100, 10);
    }

    @Case("Promise 24, 0: its KIND or one under that, under the one above it, too: the SERIAL")
    static void takenForAKind() {
        ReadingCircles x = withAllThings();
        int[][] above = {{0}, {0, 1}, {0, 1, 2}, {0, 3}, {0, 3, 4}, {0, 3, 4, 5}};
        for (int kind = 0; kind < 6; kind++) {
            for (int n : above[kind]) {
                done(x, 1, kind, 0, n, kind + 2);
            }
        }
    }

    @Case("Promise 24, 0: 11, another LETTER: of a KIND above, beside, or below another")
    static void takenForAnotherKind() {
        ReadingCircles x = withAllThings();
        int[][] others = {{1, 2, 3, 4, 5}, {2, 3, 4, 5}, {3, 4, 5}, {1, 2, 4, 5}, {1, 2, 5}, {1, 2}};
        for (int kind = 0; kind < 6; kind++) {
            for (int n : others[kind]) {
                refused(x, 1, kind, 0, n, 11);
            }
        }
    }

    @Case("Promise 24, 0: n modulo 6, above 5")
    static void kindOfLargeN() {
        ReadingCircles x = withAllThings();
        done(x, 1, 0, 0, 6, 2);
        refused(x, 1, 0, 0, 7, 11);
        done(x, 1, 5, 0, 11, 7);
        refused(x, 1, 4, 0, 11, 11);
        done(x, 1, 2, 0, 98, 4);
        refused(x, 1, 3, 0, 98, 11);
    }

    @Case("Promise 24, 0: n modulo 6, also for n below 0")
    static void kindOfNegativeN() {
        ReadingCircles x = withAllThings();
        done(x, 1, 5, 0, -1, 7);
        refused(x, 1, 4, 0, -1, 11);
        done(x, 1, 4, 0, -2, 6);
        refused(x, 1, 1, 0, -2, 11);
        done(x, 1, 1, 0, -5, 3);
        refused(x, 1, 3, 0, -5, 11);
        done(x, 1, 0, 0, -6, 2);
        refused(x, 1, 0, 0, -7, 11);
        done(x, 1, 5, 0, -97, 7);
    }

    @Case("Promise 24, 0: 11, a bare CLOCK, whatever the KIND")
    static void clockTakenForALetter() {
        ReadingCircles x = withAllThings();
        for (int n = -6; n < 12; n++) {
            refused(x, 1, 7, 0, n, 11);
        }
    }

    @Case("Promise 24, 0: 10, nothing, whatever the KIND")
    static void nothingTakenForALetter() {
        ReadingCircles x = withAllThings();
        for (int n = -6; n < 12; n++) {
            refused(x, 1, FIRST_FREE, 0, n, 10);
        }
    }

    @Case("Promise 24, 1: the count of each MEMBER n from 0 to 7 of its first ROW that is there")
    static void countOfMember() {
        ReadingCircles x = Start.withBareClock();
        int[] counts = {0, 0, 2, 1, 0, 0, 0, 0};
        for (int n = 0; n < 8; n++) {
            done(x, 0, 5, 1, n, counts[n]);
        }
        ReadingCircles y = Start.of(8, 129);
        y.write(0, 0, 0);
        y.write(7, 0, 0);
        y.deliver(0, 7);
        y.write(7, 0, 0);
        y.bare(3, 0, 2);
        done(y, 3, 0, 1, 0, 1);
        done(y, 3, 0, 1, 7, 1);
    }

    @Case("Promise 24, 1: 12, n outside 0 .. 7")
    static void countOfFarMember() {
        ReadingCircles x = Start.withBareClock();
        for (int n : new int[] {-1, 8, 9, -100, 100}) {
            refused(x, 0, 5, 1, n, 12);
        }
    }

    @Case("Promise 24, 1: 11, a LETTER, also where n is outside")
    static void countOfLetter() {
        ReadingCircles x = withAllThings();
        for (int n : new int[] {0, 7, 8, -1}) {
            for (int slot = 0; slot < 6; slot++) {
                refused(x, 1, slot, 1, n, 11);
            }
        }
    }

    @Case("Promise 24, 1: 10, nothing, also where n is outside")
    static void countOfNothing() {
        ReadingCircles x = withAllThings();
        for (int n : new int[] {0, 7, 8, -1}) {
            refused(x, 1, FIRST_FREE, 1, n, 10);
        }
    }

    @Case("Promise 24, 2: the sum of all counts of its ROW n itself, the first and the last")
    static void sumOfRow() {
        ReadingCircles x = Start.withBareClock();
        done(x, 0, 5, 2, 1, 3);
        done(x, 0, 5, 2, 2, 1);
        ReadingCircles y = Start.of(8, 129, 3, 3, 3, 3, 192);
        y.write(7, 0, 0);
        y.write(0, 0, 0);
        y.deliver(1, 7);
        y.write(7, 5, 0);
        y.write(7, 5, 0);
        y.bare(3, 0, 3);
        done(y, 3, 0, 2, 0, 2);
        done(y, 3, 0, 2, 5, 1);
    }

    @Case("Promise 24, 2: 10, the ROW is none: its writer was not in the CIRCLE, there is no such CIRCLE")
    static void sumOfMissingRow() {
        ReadingCircles x = Start.withBareClock();
        for (int n : new int[] {0, 3, 4, 5}) {
            refused(x, 0, 5, 2, n, 10);
        }
    }

    @Case("Promise 24, 2: 12, n outside 0 .. 5")
    static void sumOfFarRow() {
        ReadingCircles x = Start.withBareClock();
        for (int n : new int[] {-1, 6, 7, -100, 100}) {
            refused(x, 0, 5, 2, n, 12);
        }
    }

    @Case("Promise 24, 2: 11, a LETTER, also where n is outside")
    static void sumOfLetter() {
        ReadingCircles x = withAllThings();
        for (int n : new int[] {0, 5, 6, -1}) {
            for (int slot = 0; slot < 6; slot++) {
                refused(x, 1, slot, 2, n, 11);
            }
        }
    }

    @Case("Promise 24, 2: 10, nothing, also where n is outside")
    static void sumOfNothing() {
        ReadingCircles x = withAllThings();
        for (int n : new int[] {0, 5, 6, -1}) {
            refused(x, 1, FIRST_FREE, 2, n, 10);
        }
    }

    @Case("Promise 24, 3: a row of no cells can be made, 13: a size below 0")
    static void rowOfCells() {
        ReadingCircles x = withAllThings();
        done(x, 1, 0, 3, 0, 0);
        done(x, 1, FIRST_FREE, 3, 1, 1);
        done(x, 1, 7, 3, 99, 99);
        refused(x, 1, 0, 3, -1, 13);
        refused(x, 1, FIRST_FREE, 3, -1, 13);
        refused(x, 1, 7, 3, -99, 13);
    }

    /** Slot 0 of member 0 has a clock whose only row has the counts 1, 2, 3, 4, 5, 6, 7 and 8. */
    private static ReadingCircles withCountsOfAll() {
        ReadingCircles x = Start.of(8, 255);
        int letter = 0;
        for (int writer = 0; writer < 8; writer++) {
            for (int i = 0; i <= writer; i++) {
                x.write(writer, 0, 0);
                x.deliver(letter, 7);
                letter++;
            }
        }
        x.write(7, 0, 0);
        x.bare(0, 0, letter);
        return x;
    }

    @Case("Promise 24, 4: n cells from cell 2 on: none, and up to the four that stand in both")
    static void copyOfCells() {
        ReadingCircles x = withCountsOfAll();
        Due.row("forge(0, 0, 1, i)", n -> x.forge(0, 0, 1, n), 1, 2, 3, 4, 5, 6, 7, 8);
        int[] sums = {0, 3, 3 + 4, 3 + 4 + 5, 3 + 4 + 5 + 6};
        for (int n = 0; n < sums.length; n++) {
            done(x, 0, 0, 4, n, sums[n]);
        }
    }

    @Case("Promise 24, 4: of the first ROW that is there")
    static void copyOfFirstRow() {
        ReadingCircles x = Start.withBareClock();
        done(x, 0, 5, 4, 1, 2);
        done(x, 0, 5, 4, 2, 3);
        done(x, 0, 5, 4, 3, 3);
    }

    @Case("Promise 24, 4: 12, they do not stand in the row of 8: from cell 5 on five do not")
    static void copyPastTheRow() {
        ReadingCircles x = withCountsOfAll();
        refused(x, 0, 0, 4, 5, 12);
        refused(x, 0, 0, 4, 6, 12);
    }

    @Case("Promise 24, 4: 12, they do not stand in both: from cell 2 on seven do not")
    static void copyPastBoth() {
        ReadingCircles x = withCountsOfAll();
        for (int n : new int[] {7, 8, 9, 100}) {
            refused(x, 0, 0, 4, n, 12);
        }
    }

    @Case("Promise 24, 4: 12, n is below 0")
    static void copyOfLessThanNone() {
        ReadingCircles x = withCountsOfAll();
        for (int n : new int[] {-1, -2, -8, -100}) {
            refused(x, 0, 0, 4, n, 12);
        }
    }

    @Case("Promise 24, 4: 11, a LETTER, also where n is outside or 0")
    static void copyOfLetter() {
        ReadingCircles x = withAllThings();
        for (int n : new int[] {0, 1, 5, -1}) {
            for (int slot = 0; slot < 6; slot++) {
                refused(x, 1, slot, 4, n, 11);
            }
        }
    }

    @Case("Promise 24, 4: 10, nothing, also where n is outside or 0")
    static void copyOfNothing() {
        ReadingCircles x = withAllThings();
        for (int n : new int[] {0, 1, 5, -1}) {
            refused(x, 1, FIRST_FREE, 4, n, 10);
        }
    }

    @Case("Promise 24, 5: REPLIES and what is under them: 1")
    static void storeOfReplies() {
        ReadingCircles x = withAllThings();
        done(x, 1, 1, 5, 0, 1);
        done(x, 1, 2, 5, 0, 1);
    }

    @Case("Promise 24, 5: 14, another LETTER")
    static void storeOfOthers() {
        ReadingCircles x = withAllThings();
        for (int slot : new int[] {0, 3, 4, 5}) {
            refused(x, 1, slot, 5, 0, 14);
        }
    }

    @Case("Promise 24, 5: 11, a bare CLOCK")
    static void storeOfClock() {
        refused(withAllThings(), 1, 7, 5, 0, 11);
    }

    @Case("Promise 24, 5: nothing can be put there: 0, and that is done")
    static void storeOfNothing() {
        done(withAllThings(), 1, FIRST_FREE, 5, 0, 0);
    }

    @Case("Promise 24, 6: 100 divided by n, toward 0; 15: by 0")
    static void divided() {
        ReadingCircles x = withAllThings();
        int[][] quotients = {{1, 100}, {-1, -100}, {3, 33}, {-3, -33}, {51, 1}, {-51, -1}, {100, 1}, {-100, -1}};
        for (int[] pair : quotients) {
            done(x, 1, FIRST_FREE, 6, pair[0], pair[1]);
        }
        for (int slot : new int[] {0, FIRST_FREE, 7}) {
            refused(x, 1, slot, 6, 0, 15);
        }
    }

    @Case("Promise 24, 7: 10, n modulo 2 is 0: 0 and n below 0 too")
    static void failureThatIsNone() {
        ReadingCircles x = withAllThings();
        for (int n : new int[] {0, 2, -2, 100, -100}) {
            refused(x, 1, 0, 7, n, 10);
        }
    }

    @Case("Promise 24, 7: n modulo 2 is 1: caught at once, for n below 0 too")
    static void failureThatIsCaught() {
        ReadingCircles x = withAllThings();
        for (int n : new int[] {1, 3, -1, -3, 99, -99}) {
            done(x, 1, 0, 7, n, 1);
        }
    }
}

/** Objects from which tests start. */
final class Start {
    static final int LOW = Integer.MIN_VALUE;
    static final int HIGH = Integer.MAX_VALUE;

    private Start() {
    }

    static ReadingCircles of(int members, int... circles) {
        ReadingCircles x = new ReadingCircles();
        for (int i = 0; i < members; i++) {
            x.member();
        }
        for (int bits : circles) {
            x.circle(bits);
        }
        return x;
    }

    /** Letters 0 to 5 are of kinds 0 to 5; each clock has 3 counts, serials are 1 to 6. */
    static ReadingCircles withAllKinds() {
        ReadingCircles x = of(3, 7);
        x.write(0, 0, 0);
        x.reply(0, 0, 0);
        x.seal(0, 0, 1);
        x.write(0, 0, 4);
        x.write(0, 0, 5);
        return x;
    }

    /** Member 2 is in no circle; no more letters can be written by calls. */
    static ReadingCircles withHundredLetters() {
        ReadingCircles x = of(3, 3);
        for (int i = 0; i < 100; i++) {
            x.write(0, 0, 0);
        }
        return x;
    }

    /** Slots 0 to 5 of member 1 have letters of kinds 0 to 5 with serials 2 to 7, the rest nothing. */
    static ReadingCircles withSlotsOfAllKinds() {
        ReadingCircles x = of(2, 3);
        x.write(0, 0, 0);
        x.write(0, 0, 0);
        x.reply(0, 0, 0);
        x.seal(0, 0, -1);
        x.write(0, 0, 4);
        x.write(0, 0, 5);
        for (int letter = 1; letter < 7; letter++) {
            x.deliver(letter, 1);
        }
        return x;
    }

    /** Slot 5 of member 0 has a clock with row 1 (counts 2, 1 of members 2, 3) and row 2 (1 of 4). */
    static ReadingCircles withBareClock() {
        ReadingCircles x = of(5, 3, 14, 24);
        x.write(2, 1, 0);
        x.write(2, 1, 0);
        x.write(3, 1, 0);
        x.deliver(0, 3);
        x.deliver(1, 3);
        x.write(4, 2, 0);
        x.deliver(3, 3);
        x.write(3, 2, 0);
        x.bare(0, 5, 4);
        return x;
    }
}

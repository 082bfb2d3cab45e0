/**
 * Members write letters to circles that share members; each member gives a letter only behind
 * all that its writer had given when it was written, whatever the lines between them do.
 * The document DOC.md tells what each public method answers; a letter's NUMBER is its place here,
 * so that it is not taken for the number by which letters are called.
 */
public final class ReadingCircles {
    private static final int MOST_MEMBERS = 8;
    private static final int MOST_CIRCLES = 6;
    private static final int MOST_WRITTEN = 100;
    /** Each letter that is written by a call brings one Order at most. */
    private static final int MOST_LETTERS = 200;
    private static final int SLOTS = 40;
    private static final int MOST_TRACED = 60;
    private static final int MOST_DEPTH = 40;
    private static final int MOST_FORGED = 100;
    private static final int NONE = -1;

    private static final int NOTE = 0;
    private static final int REPLY = 1;
    private static final int SEALED = 2;
    private static final int ORDER = 3;
    private static final int VIEW = 4;
    private static final int FLUSH = 5;
    private static final int KINDS = 6;
    private static final int[] KIND_ABOVE = {NONE, NOTE, REPLY, NOTE, ORDER, VIEW};

    private static final int AGE = 0;
    private static final int BEAR = 1;
    private static final int GIVE = 2;
    private static final int WAIT = 3;
    private static final int ACTS = 4;
    /** The bodies' numbers, a line for each kind, by acts; 0: the kind has none of its own. */
    private static final int[] BODIES = {
        10, 11, 12, 13,
        20, 0, 0, 21,
        0, 30, 31, 0,
        40, 0, 0, 0,
        0, 0, 50, 0,
        0, 60, 0, 61,
    };

    private static final int DONE = 0;
    private static final int NO_SUCH = 1;
    private static final int NO_ROOM = 2;
    private static final int NOT_SO = 3;
    private static final int NOTHING_THERE = 10;
    private static final int OTHER_KIND = 11;
    private static final int OUTSIDE = 12;
    private static final int SIZE_BELOW_ZERO = 13;
    private static final int DOES_NOT_FIT = 14;
    private static final int DIVIDED_BY_ZERO = 15;

    private static final int ON_LINE = 1;
    private static final int HELD = 2;
    private static final int GIVEN = 3;

    private final Member[] members = new Member[MOST_MEMBERS];
    private final Circle[] circles = new Circle[MOST_CIRCLES];
    private final Letter[] letters = new Letter[MOST_LETTERS];
    private final int[] longestRow = new int[MOST_LETTERS];
    private final Trace latestTrace = new Trace();
    private int memberCount;
    private int circleCount;
    private int letterCount;
    private int writtenByCalls;
    private int latestStatus;

    public ReadingCircles() {
        latestStatus = DONE;
    }

    public int member() {
        if (memberCount >= MOST_MEMBERS) {
            return refuse(NO_ROOM);
        }
        members[memberCount] = new Member();
        memberCount++;
        return done(memberCount - 1);
    }

    public int circle(int bits) {
        int strangers = -1 << memberCount;
        if ((bits & strangers) != 0 || Integer.bitCount(bits) < 2) {
            return refuse(NO_SUCH);
        }
        if (circleCount >= MOST_CIRCLES) {
            return refuse(NO_ROOM);
        }
        circles[circleCount] = new Circle(bits, lowestMember(bits));
        circleCount++;
        return done(circleCount - 1);
    }

    public int write(int member, int circle, int kind) {
        if (kind != NOTE && kind != VIEW && kind != FLUSH) {
            return refuse(NO_SUCH);
        }
        return writeByCall(member, circle, kind, NONE);
    }

    public int reply(int member, int circle, int letter) {
        if (!isLetter(letter)) {
            return refuse(NO_SUCH);
        }
        return writeByCall(member, circle, REPLY, letter);
    }

    public int seal(int member, int circle, int letter) {
        if (letter != NONE && !isLetter(letter)) {
            return refuse(NO_SUCH);
        }
        return writeByCall(member, circle, SEALED, letter);
    }

    public int deliver(int letter, int member) {
        if (!isLetter(letter) || !isMember(member)) {
            return refuse(NO_SUCH);
        }
        if (!letters[letter].isOnLineTo(member)) {
            return refuse(NOT_SO);
        }
        return done(bring(letters[letter], member));
    }

    public int deliverAll(int circle, int way) {
        if (!isCircle(circle) || way < 0 || way > 1) {
            return refuse(NO_SUCH);
        }
        int came = 0;
        Letter next = nextOnLine(circle, way);
        while (next != null && came < MOST_LETTERS * MOST_MEMBERS) {
            bring(next, lowestMember(next.lineBits));
            came++;
            next = nextOnLine(circle, way);
        }
        return done(came);
    }

    public int count(int what) {
        switch (what) {
            case 0: return memberCount;
            case 1: return circleCount;
            case 2: return letterCount;
            case 3: return latestTrace.begunCount();
            default: return NONE;
        }
    }

    public int told(int letter, int what) {
        if (!isLetter(letter)) {
            return NONE;
        }
        Letter asked = letters[letter];
        switch (what) {
            case 0: return asked.kind;
            case 1: return asked.circle;
            case 2: return asked.writer;
            case 3: return asked.serial;
            case 4: return asked.answered;
            case 5: return asked.place;
            case 6: return asked.clock.counts;
            case 7: return asked.saved;
            default: return NONE;
        }
    }

    public int circleTold(int circle, int what) {
        if (!isCircle(circle)) {
            return NONE;
        }
        Circle asked = circles[circle];
        switch (what) {
            case 0: return asked.bits;
            case 1: return asked.eldest;
            case 2: return asked.places;
            case 3: return isCalm(circle) ? 1 : 0;
            default: return NONE;
        }
    }

    public int state(int member, int letter) {
        if (!isMember(member) || !isLetter(letter)) {
            return NONE;
        }
        return standing(member, letters[letter]);
    }

    public int given(int r, int c, int w) {
        if (!isMember(r) || !isCircle(c) || !isMember(w)) {
            return NONE;
        }
        return members[r].givenCounts[c][w];
    }

    public int read(int member, int i) {
        if (!isMember(member) || i < 0 || i >= members[member].readCount) {
            return NONE;
        }
        return members[member].readLetters[i];
    }

    public int why(int member, int letter, int what) {
        if (!isMember(member) || !isLetter(letter) || what < 0 || what > 2) {
            return NONE;
        }
        Letter asked = letters[letter];
        if (standing(member, asked) != HELD) {
            return NONE;
        }
        int lack = firstLack(member, asked);
        if (lack == NONE) {
            return whySealed(member, asked, what);
        }
        int d = lack / MOST_MEMBERS;
        int m = lack % MOST_MEMBERS;
        switch (what) {
            case 0: return d;
            case 1: return m;
            default: return asked.needed(d, m) - members[member].givenCounts[d][m];
        }
    }

    public int late(int member) {
        if (!isMember(member)) {
            return NONE;
        }
        int coming = 0;
        for (int i = 0; i < letterCount; i++) {
            if (letters[i].isOnLineTo(member)) {
                coming++;
            }
        }
        return coming;
    }

    public int behind(int a, int b) {
        if (!isLetter(a) || !isLetter(b)) {
            return NONE;
        }
        return letters[b].before.has(a) ? 1 : 0;
    }

    public int past(int letter) {
        return isLetter(letter) ? letters[letter].before.size() : NONE;
    }

    public int chain(int a, int b) {
        if (!isLetter(a) || !isLetter(b)) {
            return NONE;
        }
        if (!letters[b].before.has(a)) {
            return 0;
        }
        longestRow[a] = 1;
        for (int i = a + 1; i <= b; i++) {
            longestRow[i] = longestRowTo(i, a);
        }
        return longestRow[b];
    }

    public int act(int letter, int act, int x) {
        if (!isLetter(letter) || act < 0 || act >= ACTS) {
            return refuse(NO_SUCH);
        }
        latestTrace.restart();
        return done(perform(letters[letter], latestTrace, letters[letter].kind, act, x, 0));
    }

    public int trace(int i) {
        return latestTrace.bodyAt(i);
    }

    public int bare(int member, int slot, int letter) {
        if (!isMember(member) || !isSlot(slot) || !isLetter(letter)) {
            return refuse(NO_SUCH);
        }
        if (members[member].slots[slot] != null) {
            return refuse(NOT_SO);
        }
        members[member].slots[slot] = letters[letter].clock;
        return done(1);
    }

    public int slot(int member, int slot) {
        if (!isMember(member) || !isSlot(slot)) {
            return NONE;
        }
        Thing thing = members[member].slots[slot];
        if (thing instanceof Letter held) {
            return 2 + held.kind;
        }
        return thing == null ? 0 : 1;
    }

    public int forge(int member, int slot, int what, int n) {
        if (!isMember(member) || !isSlot(slot) || n < -MOST_FORGED || n > MOST_FORGED) {
            return refuse(NO_SUCH);
        }
        Thing thing = members[member].slots[slot];
        switch (what) {
            case 0: return forgeSerial(thing, n);
            case 1: return forgeCount(thing, n);
            case 2: return forgeRowSum(thing, n);
            case 3: return n < 0 ? refuse(SIZE_BELOW_ZERO) : done(n);
            case 4: return forgeCopy(thing, n);
            case 5: return forgeStore(thing);
            case 6: return n == 0 ? refuse(DIVIDED_BY_ZERO) : done(100 / n);
            case 7: return (n & 1) == 0 ? refuse(NOTHING_THERE) : done(1);
            default: return refuse(NO_SUCH);
        }
    }

    public int status() {
        return latestStatus;
    }

    private int done(int answer) {
        latestStatus = DONE;
        return answer;
    }

    private int refuse(int reason) {
        latestStatus = reason;
        return NONE;
    }

    private boolean isMember(int member) {
        return member >= 0 && member < memberCount;
    }

    private boolean isCircle(int circle) {
        return circle >= 0 && circle < circleCount;
    }

    private boolean isLetter(int letter) {
        return letter >= 0 && letter < letterCount;
    }

    private static boolean isSlot(int slot) {
        return slot >= 0 && slot < SLOTS;
    }

    private static boolean hasBit(int bits, int member) {
        return (bits >> member & 1) != 0;
    }

    private static int lowestMember(int bits) {
        for (int m = 0; m < MOST_MEMBERS; m++) {
            if (hasBit(bits, m)) {
                return m;
            }
        }
        return NONE;
    }

    /** Asks what can refuse it in the order of the statuses: the lowest is told. */
    private int writeByCall(int member, int circle, int kind, int answered) {
        if (!isMember(member) || !isCircle(circle)) {
            return refuse(NO_SUCH);
        }
        if (writtenByCalls >= MOST_WRITTEN) {
            return refuse(NO_ROOM);
        }
        if (!hasBit(circles[circle].bits, member) || !mayAnswer(member, answered)) {
            return refuse(NOT_SO);
        }
        Member writer = members[member];
        int serial = writer.nextSerial(circle);
        Clock clock = clockNow(member);
        Letter letter = new Letter(letterCount, kind, circle, member, serial, answered, clock);
        letter.saved = clock.sameCounts(writer.latestClocks[circle], circles);
        writer.latestClocks[circle] = clock;
        writtenByCalls++;
        send(letter);
        giveAll(member);
        return done(letter.number);
    }

    private boolean mayAnswer(int member, int answered) {
        if (!isLetter(answered)) {
            return answered == NONE;
        }
        return letters[answered].writer == member || letters[answered].isGivenBy(member);
    }

    private Clock clockNow(int member) {
        Clock clock = new Clock();
        for (int d = 0; d < circleCount; d++) {
            if (hasBit(circles[d].bits, member)) {
                clock.addRow(d, members[member].givenCounts[d], Integer.bitCount(circles[d].bits));
            }
        }
        return clock;
    }

    private void send(Letter letter) {
        if (letterCount >= MOST_LETTERS) {
            return;
        }
        letters[letterCount] = letter;
        letterCount++;
        Member writer = members[letter.writer];
        letter.before.addAll(writer.known);
        writer.known.add(letter.number);
        letter.lineBits = circles[letter.circle].bits & ~(1 << letter.writer);
        writer.hold(letter);
    }

    /** Takes a letter from the line to a member, and answers how many this member gave then. */
    private int bring(Letter letter, int member) {
        if (!isMember(member)) {
            return 0;
        }
        letter.lineBits &= ~(1 << member);
        members[member].hold(letter);
        return giveAll(member);
    }

    private Letter nextOnLine(int circle, int way) {
        for (int i = 0; i < letterCount; i++) {
            Letter letter = letters[way == 0 ? i : letterCount - 1 - i];
            if (letter.circle == circle && letter.lineBits != 0) {
                return letter;
            }
        }
        return null;
    }

    /** Begins again from the lowest held letter after each that is given: how many were. */
    private int giveAll(int member) {
        Member giver = members[member];
        int gave = 0;
        int at = 0;
        while (at < giver.heldCount && gave < MOST_LETTERS) {
            Letter letter = giver.held[at];
            if (canGive(member, letter)) {
                giver.release(letter);
                letter.givenBits |= 1 << member;
                writeOrderIfDue(member, letter);
                gave++;
                at = 0;
            } else {
                at++;
            }
        }
        return gave;
    }

    /** The serial is asked before the whole clock, as it is what lacks most often. */
    private boolean canGive(int member, Letter letter) {
        if (members[member].givenCounts[letter.circle][letter.writer] != letter.serial - 1) {
            return false;
        }
        return firstLack(member, letter) == NONE
            && !lacksOrder(member, letter)
            && !lacksLowerPlace(member, letter);
    }

    /** The first count that lacks, as circle * MOST_MEMBERS + member; NONE if none does. */
    private int firstLack(int member, Letter letter) {
        for (int d = 0; d < circleCount; d++) {
            if (letter.clock.rowAt(d) != null && hasBit(circles[d].bits, member)) {
                int m = firstLackIn(member, letter, d);
                if (m != NONE) {
                    return d * MOST_MEMBERS + m;
                }
            }
        }
        return NONE;
    }

    private int firstLackIn(int member, Letter letter, int d) {
        int[] counts = members[member].givenCounts[d];
        for (int m = 0; m < memberCount; m++) {
            if (hasBit(circles[d].bits, m) && counts[m] < letter.needed(d, m)) {
                return m;
            }
        }
        return NONE;
    }

    /** An eldest waits for no Order, and no one does for a letter that the eldest wrote. */
    private boolean lacksOrder(int member, Letter letter) {
        int eldest = circles[letter.circle].eldest;
        if (letter.kind != SEALED || member == eldest || letter.writer == eldest) {
            return false;
        }
        return !isLetter(letter.order) || !letters[letter.order].isGivenBy(member);
    }

    /** All but the eldest give Sealed letters by their numbers alone, so that a count tells. */
    private boolean lacksLowerPlace(int member, Letter letter) {
        if (letter.kind != SEALED || member == circles[letter.circle].eldest) {
            return false;
        }
        return members[member].sealedGiven[letter.circle] < letter.place;
    }

    private int whySealed(int member, Letter letter, int what) {
        if (what != 2) {
            return -2;
        }
        return lacksOrder(member, letter) ? 0 : 1;
    }

    /** A Sealed letter that its circle's eldest has given gets its place, and an Order names it. */
    private void writeOrderIfDue(int giver, Letter letter) {
        Circle circle = circles[letter.circle];
        if (letter.kind != SEALED || giver != circle.eldest) {
            return;
        }
        letter.place = circle.places;
        circle.places++;
        letter.order = letterCount;
        int serial = members[giver].nextSerial(letter.circle);
        send(new Letter(letterCount, ORDER, letter.circle, giver, serial, letter.number, letter.clock));
    }

    private int standing(int member, Letter letter) {
        if (!hasBit(circles[letter.circle].bits, member)) {
            return 0;
        }
        if (letter.isOnLineTo(member)) {
            return ON_LINE;
        }
        return letter.isGivenBy(member) ? GIVEN : HELD;
    }

    private boolean isCalm(int circle) {
        for (int i = 0; i < letterCount; i++) {
            if (letters[i].circle == circle && letters[i].givenBits != circles[circle].bits) {
                return false;
            }
        }
        return true;
    }

    /** Asks longestRow of all letters from a on that are lower than this one; 0: not behind a. */
    private int longestRowTo(int letter, int a) {
        NumberSet before = letters[letter].before;
        if (!before.has(a)) {
            return 0;
        }
        int longest = 1;
        for (int i = a; i < letter; i++) {
            if (longestRow[i] > longest && before.has(i)) {
                longest = longestRow[i];
            }
        }
        return longest + 1;
    }

    /** Kinds are numbers and not classes, so that one method shows all bodies as the document does. */
    private static int perform(Letter letter, Trace trace, int fromKind, int act, int x, int depth) {
        int kind = kindWithBody(fromKind, act);
        if (kind == NONE || depth > MOST_DEPTH) {
            return 0;
        }
        int own = letter.kind;
        int above = KIND_ABOVE[kind];
        int deeper = depth + 1;
        int body = BODIES[kind * ACTS + act];
        trace.begin(body);
        switch (body) {
            case 10: return x + letter.serial;
            case 11: return x * 3 + letter.clock.counts;
            case 12: return perform(letter, trace, own, AGE, x, deeper)
                + perform(letter, trace, own, BEAR, x, deeper);
            case 13: return perform(letter, trace, own, GIVE, x + 1, deeper) - x;
            case 20: return perform(letter, trace, above, AGE, x, deeper) * 2 + letter.answered;
            case 21: return perform(letter, trace, above, WAIT, x, deeper) ^ 5;
            case 30: return perform(letter, trace, above, BEAR, x + 1, deeper) - letter.place;
            case 31: return perform(letter, trace, above, GIVE, x, deeper) + letter.place * 7;
            case 40: return perform(letter, trace, above, AGE, x - 1, deeper) + letter.answered;
            case 50: return perform(letter, trace, above, GIVE, x * 2, deeper) + 1;
            case 60: return perform(letter, trace, above, BEAR, x, deeper) * 2
                + perform(letter, trace, above, AGE, x, deeper);
            case 61: return perform(letter, trace, above, WAIT, x + 2, deeper)
                + perform(letter, trace, own, BEAR, x, deeper);
            default: return 0;
        }
    }

    private static int kindWithBody(int fromKind, int act) {
        int kind = fromKind;
        for (int step = 0; step < KINDS && kind >= 0 && kind < KINDS; step++) {
            if (BODIES[kind * ACTS + act] != 0) {
                return kind;
            }
            kind = KIND_ABOVE[kind];
        }
        return NONE;
    }

    private static boolean isKindOrUnder(int kind, int wanted) {
        int above = kind;
        for (int step = 0; step < KINDS && above >= 0 && above < KINDS; step++) {
            if (above == wanted) {
                return true;
            }
            above = KIND_ABOVE[above];
        }
        return false;
    }

    private int forgeSerial(Thing thing, int n) {
        if (thing == null) {
            return refuse(NOTHING_THERE);
        }
        if (thing instanceof Letter letter && isKindOrUnder(letter.kind, Math.floorMod(n, KINDS))) {
            return done(letter.serial);
        }
        return refuse(OTHER_KIND);
    }

    private int forgeCount(Thing thing, int n) {
        int[] row = firstRowOf(thing);
        if (row == null) {
            return refuseAsClock(thing);
        }
        if (n < 0 || n >= row.length) {
            return refuse(OUTSIDE);
        }
        return done(row[n]);
    }

    private int forgeRowSum(Thing thing, int n) {
        if (thing instanceof Clock clock) {
            if (n < 0 || n >= MOST_CIRCLES) {
                return refuse(OUTSIDE);
            }
            int[] row = clock.rowAt(n);
            return row == null ? refuse(NOTHING_THERE) : done(sum(row, 0, row.length));
        }
        return refuseAsClock(thing);
    }

    /** The copied row holds nothing but the copied cells, so that their sum is its sum. */
    private int forgeCopy(Thing thing, int n) {
        int[] row = firstRowOf(thing);
        if (row == null) {
            return refuseAsClock(thing);
        }
        if (n < 0 || 2 + n > row.length || n + n > MOST_MEMBERS) {
            return refuse(OUTSIDE);
        }
        return done(sum(row, 2, 2 + n));
    }

    private int forgeStore(Thing thing) {
        if (thing == null) {
            return done(0);
        }
        if (thing instanceof Letter letter) {
            return isKindOrUnder(letter.kind, REPLY) ? done(1) : refuse(DOES_NOT_FIT);
        }
        return refuse(OTHER_KIND);
    }

    private int refuseAsClock(Thing thing) {
        return refuse(thing instanceof Letter ? OTHER_KIND : NOTHING_THERE);
    }

    private static int[] firstRowOf(Thing thing) {
        return thing instanceof Clock clock ? clock.firstRow() : null;
    }

    private static int sum(int[] row, int from, int to) {
        int total = 0;
        for (int i = from; i < to && i < row.length; i++) {
            total += row[i];
        }
        return total;
    }

    /** What a slot of a hold can have. */
    private interface Thing {
    }

    /** The counts that a writer had given when it wrote; a circle that it was not in has no row. */
    private static final class Clock implements Thing {
        private final int[][] rows = new int[MOST_CIRCLES][];
        private int counts;

        void addRow(int d, int[] givenCounts, int memberCount) {
            if (d >= 0 && d < rows.length) {
                rows[d] = givenCounts.clone();
                counts += memberCount;
            }
        }

        int[] rowAt(int d) {
            return d >= 0 && d < rows.length ? rows[d] : null;
        }

        int[] firstRow() {
            for (int d = 0; d < rows.length; d++) {
                if (rows[d] != null) {
                    return rows[d];
                }
            }
            return null;
        }

        /** How many counts are the same in an earlier clock, which may lack rows or be none. */
        int sameCounts(Clock earlier, Circle[] circles) {
            int same = 0;
            for (int d = 0; earlier != null && d < rows.length; d++) {
                if (rows[d] != null && earlier.rows[d] != null) {
                    same += sameInRow(rows[d], earlier.rows[d], circles[d].bits);
                }
            }
            return same;
        }

        private static int sameInRow(int[] row, int[] earlier, int bits) {
            int same = 0;
            for (int m = 0; m < row.length && m < earlier.length; m++) {
                if (hasBit(bits, m) && row[m] == earlier[m]) {
                    same++;
                }
            }
            return same;
        }
    }

    /** A letter, and how it stands to the members of its circle. */
    private static final class Letter implements Thing {
        private final int number;
        private final int kind;
        private final int circle;
        private final int writer;
        private final int serial;
        private final int answered;
        private final Clock clock;
        private final NumberSet before = new NumberSet();
        private int place = NONE;
        private int order = NONE;
        private int saved;
        private int lineBits;
        private int givenBits;

        Letter(int number, int kind, int circle, int writer, int serial, int answered, Clock clock) {
            this.number = number;
            this.kind = kind;
            this.circle = circle;
            this.writer = writer;
            this.serial = serial;
            this.answered = answered;
            this.clock = clock;
        }

        boolean isOnLineTo(int member) {
            return hasBit(lineBits, member);
        }

        boolean isGivenBy(int member) {
            return hasBit(givenBits, member);
        }

        /** How many letters by m to circle d must be given before this one. */
        int needed(int d, int m) {
            if (d == circle && m == writer) {
                return serial - 1;
            }
            int[] row = d >= 0 && d < MOST_CIRCLES ? clock.rows[d] : null;
            return row == null || m < 0 || m >= row.length ? 0 : row[m];
        }
    }

    /** A circle's members never change. */
    private static final class Circle {
        private final int bits;
        private final int eldest;
        private int places;

        Circle(int bits, int eldest) {
            this.bits = bits;
            this.eldest = eldest;
        }
    }

    /** What a member has written, holds and has given. */
    private static final class Member {
        private final int[][] givenCounts = new int[MOST_CIRCLES][MOST_MEMBERS];
        private final int[] writtenCounts = new int[MOST_CIRCLES];
        private final int[] sealedGiven = new int[MOST_CIRCLES];
        private final Clock[] latestClocks = new Clock[MOST_CIRCLES];
        private final int[] readLetters = new int[MOST_LETTERS];
        private final Letter[] held = new Letter[MOST_LETTERS];
        private final Thing[] slots = new Thing[SLOTS];
        private final NumberSet known = new NumberSet();
        private int readCount;
        private int heldCount;

        int nextSerial(int circle) {
            writtenCounts[circle]++;
            return writtenCounts[circle];
        }

        /** Keeps the held letters by number: the lowest that can be given comes first. */
        void hold(Letter letter) {
            if (heldCount >= held.length) {
                return;
            }
            int at = heldCount;
            while (at > 0 && held[at - 1].number > letter.number) {
                held[at] = held[at - 1];
                at--;
            }
            held[at] = letter;
            heldCount++;
            takeSlot(letter);
        }

        private void takeSlot(Letter letter) {
            for (int i = 0; i < slots.length; i++) {
                if (slots[i] == null) {
                    slots[i] = letter;
                    return;
                }
            }
        }

        /** Gives a held letter: it is held no more, and is known with all that it is behind of. */
        void release(Letter letter) {
            dropHeld(letter);
            leaveSlot(letter);
            givenCounts[letter.circle][letter.writer]++;
            if (letter.kind == SEALED) {
                sealedGiven[letter.circle]++;
            }
            if (readCount < readLetters.length) {
                readLetters[readCount] = letter.number;
                readCount++;
            }
            known.addAll(letter.before);
            known.add(letter.number);
        }

        private void dropHeld(Letter letter) {
            int kept = 0;
            for (int i = 0; i < heldCount; i++) {
                if (held[i] != letter) {
                    held[kept] = held[i];
                    kept++;
                }
            }
            heldCount = kept;
        }

        private void leaveSlot(Letter letter) {
            for (int i = 0; i < slots.length; i++) {
                if (slots[i] == letter) {
                    slots[i] = null;
                }
            }
        }
    }

    /**
     * The numbers of the bodies that ran; those past the first MOST_TRACED are counted alone.
     * No act of the document runs so many: tests can see that limit here alone, so it is not private.
     */
    static final class Trace {
        private final int[] bodies = new int[MOST_TRACED];
        private int begun;

        void restart() {
            begun = 0;
        }

        int begunCount() {
            return begun;
        }

        void begin(int body) {
            if (begun < bodies.length) {
                bodies[begun] = body;
            }
            begun++;
        }

        int bodyAt(int i) {
            return i >= 0 && i < begun && i < bodies.length ? bodies[i] : NONE;
        }
    }

    /** A set of letters' numbers. */
    private static final class NumberSet {
        private static final int WORD_BITS = 64;
        private final long[] words = new long[(MOST_LETTERS + WORD_BITS - 1) / WORD_BITS];

        void add(int number) {
            if (number >= 0 && number < MOST_LETTERS) {
                words[number / WORD_BITS] |= 1L << (number % WORD_BITS);
            }
        }

        void addAll(NumberSet other) {
            for (int i = 0; i < words.length; i++) {
                words[i] |= other.words[i];
            }
        }

        boolean has(int number) {
            return number >= 0 && number < MOST_LETTERS
                && (words[number / WORD_BITS] >>> (number % WORD_BITS) & 1L) != 0;
        }

        int size() {
            int size = 0;
            for (int i = 0; i < words.length; i++) {
                size += Long.bitCount(words[i]);
            }
            return size;
        }
    }
}

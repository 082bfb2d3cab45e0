import java.util.ArrayList;
import java.util.List;
import java.util.Random;
import java.util.function.ToIntFunction;

/**
 * Random runs of calls, the same for every start, asked of ReadingCircles and of the Oracle. No more
 * than 512 calls of one object are promised: then a new one is brought to where the old one stood.
 */
public final class OracleTests {
    private static final int RUNS = 400;
    private static final int CALLS_OF_ONE = 512;
    /** Two changes each at most, so that a new object has calls left when it has been brought there. */
    private static final int ROUNDS = 230;
    private static final int[] ODD = {-1, -2, 2, 3, 4, 5, 6, 7, 8, 40, 100, 101, -100, -101, 200, 1 << 8, 1 << 31, Integer.MAX_VALUE};

    private final Random random;
    private final Oracle oracle = new Oracle();
    private final List<ToIntFunction<ReadingCircles>> changes = new ArrayList<>();
    private ReadingCircles asked = new ReadingCircles();
    private int callsOfAsked;
    private final int memberLimit;
    private final int oddOneIn;
    private final int deliverWeight;
    private final int sealWeight;
    private final String run;

    private OracleTests(int seed) {
        random = new Random(seed * 0x9E3779B97F4A7C15L);
        memberLimit = 2 + random.nextInt(8);
        oddOneIn = 10 + random.nextInt(200);
        deliverWeight = random.nextInt(30);
        sealWeight = random.nextInt(8);
        run = "run " + seed + ": ";
    }

    public static void main(String[] args) {
        for (int seed = 0; seed < RUNS; seed++) {
            new OracleTests(seed).play();
        }
        Due.end("OracleTests");
    }

    private void play() {
        for (int i = 0; i < memberLimit; i++) {
            member();
        }
        for (int i = 1 + random.nextInt(4); i > 0; i--) {
            circle();
        }
        for (int i = 0; i < ROUNDS; i++) {
            change();
            ask();
        }
        for (int c = 0; c < 6; c++) {
            deliverAll(c, random.nextInt(2));
        }
        askAll();
    }

    private void same(String call, ToIntFunction<ReadingCircles> made, int want) {
        if (callsOfAsked == CALLS_OF_ONE) {
            asked = new ReadingCircles();
            for (ToIntFunction<ReadingCircles> change : changes) {
                change.applyAsInt(asked);
            }
            callsOfAsked = changes.size();
        }
        callsOfAsked++;
        Due.is(run + call, made.applyAsInt(asked), want);
    }

    private void changed(String call, ToIntFunction<ReadingCircles> made, int want) {
        same(call, made, want);
        changes.add(made);
    }

    private int pick(int count) {
        if (random.nextInt(oddOneIn) == 0) {
            return ODD[random.nextInt(ODD.length)];
        }
        return random.nextInt(Math.max(1, count));
    }

    private int aMember() {
        return pick(oracle.count(0));
    }

    private int aCircle() {
        return pick(oracle.count(1));
    }

    private int aLetter() {
        int count = oracle.count(2);
        return random.nextBoolean() ? pick(count) : Math.max(0, count - 1 - random.nextInt(12));
    }

    private int aSlot() {
        return random.nextInt(3) == 0 ? pick(40) : pick(6);
    }

    private void change() {
        if (random.nextInt(16) < sealWeight) {
            seal(aMember(), aCircle(), -1);
        }
        switch (random.nextInt(16 + deliverWeight)) {
            case 0: case 1: case 2: case 3: write(aMember(), aCircle(), new int[] {0, 4, 5, 0, 4, 5, 1, 3}[random.nextInt(8)]); break;
            case 4: case 5: reply(aMember(), aCircle(), aLetter()); break;
            case 6: case 7: seal(aMember(), aCircle(), random.nextInt(3) == 0 ? aLetter() : -1); break;
            case 8: act(aLetter(), pick(4), random.nextInt(4) == 0 ? random.nextInt() : random.nextInt(40) - 20); break;
            case 9: bare(aMember(), aSlot(), aLetter()); break;
            case 10: case 11: case 12: case 13: forge(aMember(), aSlot(), pick(8), random.nextInt(3) == 0 ? pick(100) : random.nextInt(16) - 5); break;
            case 14: if (random.nextInt(8) == 0) { circle(); } else { act(aLetter(), pick(4), random.nextInt(9)); } break;
            case 15: if (random.nextInt(12) == 0) { deliverAll(aCircle(), pick(2)); } else { deliver(aLetter(), aMember()); } break;
            default: deliver(aLetter(), aMember()); break;
        }
        status();
    }

    private void member() {
        changed("member()", x -> x.member(), oracle.member());
    }

    private void circle() {
        int bits = random.nextInt(1 << Math.min(8, memberLimit)) | (random.nextInt(30) == 0 ? 1 << random.nextInt(32) : 0);
        changed("circle(" + bits + ")", x -> x.circle(bits), oracle.circle(bits));
    }

    private void write(int m, int c, int k) {
        changed("write(" + m + ", " + c + ", " + k + ")", x -> x.write(m, c, k), oracle.write(m, c, k));
    }

    private void reply(int m, int c, int l) {
        changed("reply(" + m + ", " + c + ", " + l + ")", x -> x.reply(m, c, l), oracle.reply(m, c, l));
    }

    private void seal(int m, int c, int l) {
        changed("seal(" + m + ", " + c + ", " + l + ")", x -> x.seal(m, c, l), oracle.seal(m, c, l));
    }

    private void deliver(int l, int m) {
        changed("deliver(" + l + ", " + m + ")", x -> x.deliver(l, m), oracle.deliver(l, m));
    }

    private void deliverAll(int c, int way) {
        changed("deliverAll(" + c + ", " + way + ")", x -> x.deliverAll(c, way), oracle.deliverAll(c, way));
    }

    private void act(int l, int a, int n) {
        changed("act(" + l + ", " + a + ", " + n + ")", x -> x.act(l, a, n), oracle.act(l, a, n));
        for (int at = -1; at < 16; at++) {
            trace(at);
        }
    }

    private void bare(int m, int s, int l) {
        changed("bare(" + m + ", " + s + ", " + l + ")", x -> x.bare(m, s, l), oracle.bare(m, s, l));
    }

    private void forge(int m, int s, int what, int n) {
        changed("forge(" + m + ", " + s + ", " + what + ", " + n + ")", x -> x.forge(m, s, what, n), oracle.forge(m, s, what, n));
    }

    private void trace(int i) {
        same("trace(" + i + ")", x -> x.trace(i), oracle.trace(i));
    }

    private void status() {
        same("status()", x -> x.status(), oracle.status());
    }

    private void told(int l, int what) {
        same("told(" + l + ", " + what + ")", x -> x.told(l, what), oracle.told(l, what));
    }

    private void circleTold(int c, int what) {
        same("circleTold(" + c + ", " + what + ")", x -> x.circleTold(c, what), oracle.circleTold(c, what));
    }

    private void state(int m, int l) {
        same("state(" + m + ", " + l + ")", x -> x.state(m, l), oracle.state(m, l));
    }

    private void read(int m, int i) {
        same("read(" + m + ", " + i + ")", x -> x.read(m, i), oracle.read(m, i));
    }

    private void why(int m, int l, int what) {
        same("why(" + m + ", " + l + ", " + what + ")", x -> x.why(m, l, what), oracle.why(m, l, what));
    }

    private void past(int l) {
        same("past(" + l + ")", x -> x.past(l), oracle.past(l));
    }

    private void slot(int m, int s) {
        same("slot(" + m + ", " + s + ")", x -> x.slot(m, s), oracle.slot(m, s));
    }

    private void ask() {
        int m = aMember();
        int w = aMember();
        int c = aCircle();
        int l = aLetter();
        int b = aLetter();
        int s = aSlot();
        int what = pick(8);
        same("count(" + what + ")", x -> x.count(what), oracle.count(what));
        told(l, what);
        circleTold(c, what);
        state(m, l);
        same("given(" + m + ", " + c + ", " + w + ")", x -> x.given(m, c, w), oracle.given(m, c, w));
        read(m, what);
        same("late(" + m + ")", x -> x.late(m), oracle.late(m));
        same("behind(" + l + ", " + b + ")", x -> x.behind(l, b), oracle.behind(l, b));
        past(l);
        same("chain(" + l + ", " + b + ")", x -> x.chain(l, b), oracle.chain(l, b));
        slot(m, s);
        for (int of = -1; of < 4; of++) {
            why(m, l, of);
        }
        status();
    }

    private void askAll() {
        for (int l = 0; l < oracle.count(2); l++) {
            for (int what = 0; what < 8; what++) {
                told(l, what);
            }
            for (int m = 0; m < oracle.count(0); m++) {
                state(m, l);
                read(m, l);
            }
            past(l);
        }
        for (int m = 0; m < oracle.count(0); m++) {
            for (int s = -1; s < 41; s++) {
                slot(m, s);
            }
        }
        for (int c = 0; c < oracle.count(1); c++) {
            for (int what = 0; what < 4; what++) {
                circleTold(c, what);
            }
        }
    }
}

import java.util.Random;

/** Random runs of calls, the same for every start, asked of ReadingCircles and of the Oracle. */
public final class OracleTests {
    private static final int RUNS = 400;
    private static final int CALLS = 512;
    private static final int[] ODD = {-1, -2, 2, 3, 4, 5, 6, 7, 8, 40, 100, 101, -100, -101, 200, 1 << 8, 1 << 31, Integer.MAX_VALUE};

    private final Random random;
    private final ReadingCircles asked = new ReadingCircles();
    private final Oracle oracle = new Oracle();
    private final int memberLimit;
    private final int oddOneIn;
    private final int deliverWeight;
    private final int sealWeight;
    private final String run;

    private OracleTests(int seed) {
        random = new Random(seed * 0x9E3779B97F4A7C15L);
        memberLimit = 2 + random.nextInt(8);
        oddOneIn = 10 + random.nextInt(200);
        deliverWeight = random.nextInt(30);
        sealWeight = random.nextInt(8);
        run = "run " + seed + ": ";
    }

    public static void main(String[] args) {
        for (int seed = 0; seed < RUNS; seed++) {
            new OracleTests(seed).play();
        }
        Due.end("OracleTests");
    }

    private void play() {
        for (int i = 0; i < memberLimit; i++) {
            member();
        }
        for (int i = 1 + random.nextInt(4); i > 0; i--) {
            circle();
        }
        for (int i = 0; i < CALLS / 2; i++) {
            change();
            ask();
        }
        for (int c = 0; c < 6; c++) {
            deliverAll(c, random.nextInt(2));
        }
        askAll();
    }

    private int pick(int count) {
        if (random.nextInt(oddOneIn) == 0) {
            return ODD[random.nextInt(ODD.length)];
        }
        return random.nextInt(Math.max(1, count));
    }

    private int aMember() {
        return pick(oracle.count(0));
    }

    private int aCircle() {
        return pick(oracle.count(1));
    }

    private int aLetter() {
        int count = oracle.count(2);
        return random.nextBoolean() ? pick(count) : Math.max(0, count - 1 - random.nextInt(12));
    }

    private int aSlot() {
        return random.nextInt(3) == 0 ? pick(40) : pick(6);
    }

    private void change() {
        if (random.nextInt(16) < sealWeight) {
            seal(aMember(), aCircle(), -1);
        }
        switch (random.nextInt(16 + deliverWeight)) {
            case 0: case 1: case 2: case 3: write(aMember(), aCircle(), new int[] {0, 4, 5, 0, 4, 5, 1, 3}[random.nextInt(8)]); break;
            case 4: case 5: reply(aMember(), aCircle(), aLetter()); break;
            case 6: case 7: seal(aMember(), aCircle(), random.nextInt(3) == 0 ? aLetter() : -1); break;
            case 8: act(aLetter(), pick(4), random.nextInt(4) == 0 ? random.nextInt() : random.nextInt(40) - 20); break;
            case 9: bare(aMember(), aSlot(), aLetter()); break;
            case 10: case 11: case 12: case 13: forge(aMember(), aSlot(), pick(8), random.nextInt(3) == 0 ? pick(100) : random.nextInt(16) - 5); break;
            case 14: if (random.nextInt(8) == 0) { circle(); } else { act(aLetter(), pick(4), random.nextInt(9)); } break;
            case 15: if (random.nextInt(12) == 0) { deliverAll(aCircle(), pick(2)); } else { deliver(aLetter(), aMember()); } break;
            default: deliver(aLetter(), aMember()); break;
        }
        same("status()", asked.status(), oracle.status());
    }

    private void same(String call, int got, int want) {
        Due.is(run + call, got, want);
    }

    private void member() {
        same("member()", asked.member(), oracle.member());
    }

    private void circle() {
        int bits = random.nextInt(1 << Math.min(8, memberLimit)) | (random.nextInt(30) == 0 ? 1 << random.nextInt(32) : 0);
        same("circle(" + bits + ")", asked.circle(bits), oracle.circle(bits));
    }

    private void write(int m, int c, int k) {
        same("write(" + m + ", " + c + ", " + k + ")", asked.write(m, c, k), oracle.write(m, c, k));
    }

    private void reply(int m, int c, int l) {
        same("reply(" + m + ", " + c + ", " + l + ")", asked.reply(m, c, l), oracle.reply(m, c, l));
    }

    private void seal(int m, int c, int l) {
        same("seal(" + m + ", " + c + ", " + l + ")", asked.seal(m, c, l), oracle.seal(m, c, l));
    }

    private void deliver(int l, int m) {
        same("deliver(" + l + ", " + m + ")", asked.deliver(l, m), oracle.deliver(l, m));
    }

    private void deliverAll(int c, int way) {
        same("deliverAll(" + c + ", " + way + ")", asked.deliverAll(c, way), oracle.deliverAll(c, way));
    }

    private void act(int l, int a, int x) {
        same("act(" + l + ", " + a + ", " + x + ")", asked.act(l, a, x), oracle.act(l, a, x));
        for (int i = -1; i < 16; i++) {
            same("trace(" + i + ")", asked.trace(i), oracle.trace(i));
        }
    }

    private void bare(int m, int s, int l) {
        same("bare(" + m + ", " + s + ", " + l + ")", asked.bare(m, s, l), oracle.bare(m, s, l));
    }

    private void forge(int m, int s, int what, int n) {
        same("forge(" + m + ", " + s + ", " + what + ", " + n + ")", asked.forge(m, s, what, n), oracle.forge(m, s, what, n));
    }

    private void ask() {
        int m = aMember();
        int o = aMember();
        int c = aCircle();
        int l = aLetter();
        int b = aLetter();
        int s = aSlot();
        int what = pick(8);
        same("count(" + what + ")", asked.count(what), oracle.count(what));
        same("told(" + l + ", " + what + ")", asked.told(l, what), oracle.told(l, what));
        same("circleTold(" + c + ", " + what + ")", asked.circleTold(c, what), oracle.circleTold(c, what));
        same("state(" + m + ", " + l + ")", asked.state(m, l), oracle.state(m, l));
        same("given(" + m + ", " + c + ", " + o + ")", asked.given(m, c, o), oracle.given(m, c, o));
        same("read(" + m + ", " + what + ")", asked.read(m, what), oracle.read(m, what));
        same("late(" + m + ")", asked.late(m), oracle.late(m));
        same("behind(" + l + ", " + b + ")", asked.behind(l, b), oracle.behind(l, b));
        same("past(" + l + ")", asked.past(l), oracle.past(l));
        same("chain(" + l + ", " + b + ")", asked.chain(l, b), oracle.chain(l, b));
        same("slot(" + m + ", " + s + ")", asked.slot(m, s), oracle.slot(m, s));
        for (int w = -1; w < 4; w++) {
            same("why(" + m + ", " + l + ", " + w + ")", asked.why(m, l, w), oracle.why(m, l, w));
        }
        same("status()", asked.status(), oracle.status());
    }

    private void askAll() {
        for (int l = 0; l < oracle.count(2); l++) {
            for (int what = 0; what < 8; what++) {
                same("told(" + l + ", " + what + ")", asked.told(l, what), oracle.told(l, what));
            }
            for (int m = 0; m < oracle.count(0); m++) {
                same("state(" + m + ", " + l + ")", asked.state(m, l), oracle.state(m, l));
                same("read(" + m + ", " + l + ")", asked.read(m, l), oracle.read(m, l));
            }
            same("past(" + l + ")", asked.past(l), oracle.past(l));
        }
        for (int m = 0; m < oracle.count(0); m++) {
            for (int s = -1; s < 41; s++) {
                same("slot(" + m + ", " + s + ")", asked.slot(m, s), oracle.slot(m, s));
            }
        }
        for (int c = 0; c < oracle.count(1); c++) {
            for (int what = 0; what < 4; what++) {
                same("circleTold(" + c + ", " + what + ")", asked.circleTold(c, what), oracle.circleTold(c, what));
            }
        }
    }
}

import java.util.ArrayList;
import java.util.HashSet;
import java.util.List;
import java.util.Set;
import java.util.TreeSet;

/**
 * The document, read as literally as can be and with no thought for room or speed: counts are
 * counted anew from what was given, BEHIND is walked, kinds are classes, and the host really
 * refuses. Tests ask ReadingCircles for the same answers.
 */
final class Oracle {
    private static final String[] ACT_NAMES = {"age", "bear", "give", "wait"};

    /** Things of slots: letters by kinds that are under one another, and bare clocks. */
    static class Thing {
    }

    static final class Clock extends Thing {
        final int[][] rows = new int[6][];
    }

    class Note extends Thing {
        int number;
        int kind;
        int circle;
        int writer;
        int q;
        int n = -1;
        int a = -1;
        int k;
        int saved;
        Clock clock;
        boolean byCall;
        final Set<Integer> direct = new HashSet<>();
        final Set<Integer> line = new TreeSet<>();

        int age(int x) {
            ran(10);
            return x + q;
        }

        int bear(int x) {
            ran(11);
            return x * 3 + k;
        }

        int give(int x) {
            ran(12);
            return age(x) + bear(x);
        }

        int waits(int x) {
            ran(13);
            return give(x + 1) - x;
        }
    }

    class Reply extends Note {
        @Override int age(int x) {
            ran(20);
            return super.age(x) * 2 + a;
        }

        @Override int waits(int x) {
            ran(21);
            return super.waits(x) ^ 5;
        }
    }

    class Sealed extends Reply {
        @Override int bear(int x) {
            ran(30);
            return super.bear(x + 1) - n;
        }

        @Override int give(int x) {
            ran(31);
            return super.give(x) + n * 7;
        }
    }

    class Order extends Note {
        @Override int age(int x) {
            ran(40);
            return super.age(x - 1) + a;
        }
    }

    class View extends Order {
        @Override int give(int x) {
            ran(50);
            return super.give(x * 2) + 1;
        }
    }

    class Flush extends View {
        @Override int bear(int x) {
            ran(60);
            return super.bear(x) * 2 + super.age(x);
        }

        @Override int waits(int x) {
            ran(61);
            return super.waits(x + 2) + bear(x);
        }
    }

    final class Person {
        final List<Note> wrote = new ArrayList<>();
        final List<Note> gave = new ArrayList<>();
        final List<Note> holds = new ArrayList<>();
        final Thing[] slots = new Thing[40];
    }

    private final List<Person> people = new ArrayList<>();
    private final List<Set<Integer>> circles = new ArrayList<>();
    private final List<Note> letters = new ArrayList<>();
    private final List<Integer> bodies = new ArrayList<>();
    private int written;
    private int status;

    private void ran(int body) {
        bodies.add(body);
    }

    private int no(int reason) {
        status = reason;
        return -1;
    }

    private int yes(int answer) {
        status = 0;
        return answer;
    }

    private boolean noMember(int m) {
        return m < 0 || m >= people.size();
    }

    private boolean noCircle(int c) {
        return c < 0 || c >= circles.size();
    }

    private boolean noLetter(int l) {
        return l < 0 || l >= letters.size();
    }

    private int eldest(int c) {
        return ((TreeSet<Integer>) circles.get(c)).first();
    }

    int member() {
        if (people.size() == 8) {
            return no(2);
        }
        people.add(new Person());
        return yes(people.size() - 1);
    }

    int circle(int bits) {
        Set<Integer> in = new TreeSet<>();
        for (int m = 0; m < 32; m++) {
            if ((bits & (1 << m)) != 0) {
                if (noMember(m)) {
                    return no(1);
                }
                in.add(m);
            }
        }
        if (in.size() < 2) {
            return no(1);
        }
        if (circles.size() == 6) {
            return no(2);
        }
        circles.add(in);
        return yes(circles.size() - 1);
    }

    int write(int member, int circle, int kind) {
        boolean can = kind == 0 || kind == 4 || kind == 5;
        return byCall(member, circle, kind, -1, can);
    }

    int reply(int member, int circle, int letter) {
        return byCall(member, circle, 1, letter, !noLetter(letter));
    }

    int seal(int member, int circle, int letter) {
        return byCall(member, circle, 2, letter, letter == -1 || !noLetter(letter));
    }

    private int byCall(int member, int circle, int kind, int answered, boolean can) {
        if (noMember(member) || noCircle(circle) || !can) {
            return no(1);
        }
        if (written == 100) {
            return no(2);
        }
        Person w = people.get(member);
        if (!circles.get(circle).contains(member)) {
            return no(3);
        }
        if (answered != -1 && !w.wrote.contains(letters.get(answered)) && !w.gave.contains(letters.get(answered))) {
            return no(3);
        }
        Note letter = made(kind);
        letter.byCall = true;
        letter.a = answered;
        letter.clock = new Clock();
        for (int d = 0; d < circles.size(); d++) {
            if (circles.get(d).contains(member)) {
                letter.clock.rows[d] = new int[8];
                for (int m : circles.get(d)) {
                    letter.clock.rows[d][m] = given(member, d, m);
                }
            }
        }
        written++;
        post(letter, member, circle);
        return yes(letter.number);
    }

    private Note made(int kind) {
        Note letter = kind == 0 ? new Note() : kind == 1 ? new Reply() : kind == 2 ? new Sealed()
            : kind == 3 ? new Order() : kind == 4 ? new View() : new Flush();
        letter.kind = kind;
        return letter;
    }

    private void post(Note letter, int member, int circle) {
        Person w = people.get(member);
        letter.number = letters.size();
        letter.writer = member;
        letter.circle = circle;
        letter.q = 1;
        Note earlier = null;
        for (Note other : w.wrote) {
            letter.direct.add(other.number);
            if (other.circle == circle) {
                letter.q++;
                earlier = other.byCall ? other : earlier;
            }
        }
        for (Note other : w.gave) {
            letter.direct.add(other.number);
        }
        for (int d = 0; d < 6; d++) {
            if (letter.clock.rows[d] != null) {
                letter.k += circles.get(d).size();
                for (int m : circles.get(d)) {
                    if (letter.byCall && earlier != null && earlier.clock.rows[d] != null
                        && earlier.clock.rows[d][m] == letter.clock.rows[d][m]) {
                        letter.saved++;
                    }
                }
            }
        }
        letters.add(letter);
        w.wrote.add(letter);
        letter.line.addAll(circles.get(circle));
        letter.line.remove(member);
        comesToHold(member, letter);
    }

    private void comesToHold(int r, Note letter) {
        Person holder = people.get(r);
        holder.holds.add(letter);
        for (int s = 0; s < 40; s++) {
            if (holder.slots[s] == null) {
                holder.slots[s] = letter;
                break;
            }
        }
        while (true) {
            Note lowest = null;
            for (Note held : holder.holds) {
                if (canGive(r, held) && (lowest == null || held.number < lowest.number)) {
                    lowest = held;
                }
            }
            if (lowest == null) {
                return;
            }
            gives(r, lowest);
        }
    }

    private void gives(int r, Note letter) {
        Person giver = people.get(r);
        giver.holds.remove(letter);
        for (int s = 0; s < 40; s++) {
            if (giver.slots[s] == letter) {
                giver.slots[s] = null;
            }
        }
        giver.gave.add(letter);
        if (letter instanceof Sealed && eldest(letter.circle) == r) {
            letter.n = circleTold(letter.circle, 2);
            Note order = made(3);
            order.a = letter.number;
            order.clock = letter.clock;
            post(order, r, letter.circle);
        }
    }

    private boolean canGive(int r, Note letter) {
        if (given(r, letter.circle, letter.writer) != letter.q - 1) {
            return false;
        }
        for (int d = 0; d < circles.size(); d++) {
            if (letter.clock.rows[d] != null && circles.get(d).contains(r)) {
                for (int m : circles.get(d)) {
                    boolean own = d == letter.circle && m == letter.writer;
                    if (!own && given(r, d, m) < letter.clock.rows[d][m]) {
                        return false;
                    }
                }
            }
        }
        if (letter instanceof Sealed && eldest(letter.circle) != r) {
            return !orderLacks(r, letter) && !lowerLacks(r, letter);
        }
        return true;
    }

    private boolean orderLacks(int r, Note letter) {
        if (letter.writer == eldest(letter.circle)) {
            return false;
        }
        for (Note other : people.get(r).gave) {
            if (other.kind == 3 && other.a == letter.number) {
                return false;
            }
        }
        return true;
    }

    private boolean lowerLacks(int r, Note letter) {
        for (Note other : letters) {
            if (other instanceof Sealed && other.circle == letter.circle && other.n != -1
                && other.n < letter.n && !people.get(r).gave.contains(other)) {
                return true;
            }
        }
        return false;
    }

    int deliver(int letter, int member) {
        if (noLetter(letter) || noMember(member)) {
            return no(1);
        }
        if (!letters.get(letter).line.contains(member)) {
            return no(3);
        }
        int before = people.get(member).gave.size();
        letters.get(letter).line.remove(member);
        comesToHold(member, letters.get(letter));
        return yes(people.get(member).gave.size() - before);
    }

    int deliverAll(int circle, int way) {
        if (noCircle(circle) || way != 0 && way != 1) {
            return no(1);
        }
        int came = 0;
        while (true) {
            Note next = null;
            for (Note letter : letters) {
                if (letter.circle == circle && !letter.line.isEmpty() && (next == null || way == 1)) {
                    next = letter;
                }
            }
            if (next == null) {
                return yes(came);
            }
            deliver(next.number, ((TreeSet<Integer>) next.line).first());
            came++;
        }
    }

    int count(int what) {
        int[] counts = {people.size(), circles.size(), letters.size(), bodies.size()};
        return what < 0 || what > 3 ? -1 : counts[what];
    }

    int told(int letter, int what) {
        if (noLetter(letter) || what < 0 || what > 7) {
            return -1;
        }
        Note l = letters.get(letter);
        return new int[] {l.kind, l.circle, l.writer, l.q, l.a, l.n, l.k, l.saved}[what];
    }

    int circleTold(int circle, int what) {
        if (noCircle(circle) || what < 0 || what > 3) {
            return -1;
        }
        int bits = 0;
        for (int m : circles.get(circle)) {
            bits |= 1 << m;
        }
        int numbers = 0;
        int calm = 1;
        for (Note letter : letters) {
            if (letter.circle == circle) {
                numbers += letter.n != -1 ? 1 : 0;
                for (int m : circles.get(circle)) {
                    calm = people.get(m).gave.contains(letter) ? calm : 0;
                }
            }
        }
        return new int[] {bits, eldest(circle), numbers, calm}[what];
    }

    int state(int member, int letter) {
        if (noMember(member) || noLetter(letter)) {
            return -1;
        }
        Note l = letters.get(letter);
        return l.line.contains(member) ? 1 : people.get(member).holds.contains(l) ? 2
            : people.get(member).gave.contains(l) ? 3 : 0;
    }

    int given(int r, int c, int w) {
        if (noMember(r) || noCircle(c) || noMember(w)) {
            return -1;
        }
        int count = 0;
        for (Note letter : people.get(r).gave) {
            count += letter.circle == c && letter.writer == w ? 1 : 0;
        }
        return count;
    }

    int read(int member, int i) {
        if (noMember(member) || i < 0 || i >= people.get(member).gave.size()) {
            return -1;
        }
        return people.get(member).gave.get(i).number;
    }

    int why(int member, int letter, int what) {
        if (state(member, letter) != 2 || what < 0 || what > 2) {
            return -1;
        }
        Note l = letters.get(letter);
        for (int d = 0; d < circles.size(); d++) {
            if (l.clock.rows[d] != null && circles.get(d).contains(member)) {
                for (int m : circles.get(d)) {
                    int need = d == l.circle && m == l.writer ? l.q - 1 : l.clock.rows[d][m];
                    int lack = need - given(member, d, m);
                    if (lack > 0) {
                        return new int[] {d, m, lack}[what];
                    }
                }
            }
        }
        return new int[] {-2, -2, orderLacks(member, l) ? 0 : lowerLacks(member, l) ? 1 : -9}[what];
    }

    int late(int member) {
        if (noMember(member)) {
            return -1;
        }
        int late = 0;
        for (Note letter : letters) {
            late += letter.line.contains(member) ? 1 : 0;
        }
        return late;
    }

    private Set<Integer> allBefore(int letter) {
        Set<Integer> found = new HashSet<>(letters.get(letter).direct);
        List<Integer> open = new ArrayList<>(found);
        while (!open.isEmpty()) {
            for (int further : letters.get(open.remove(open.size() - 1)).direct) {
                if (found.add(further)) {
                    open.add(further);
                }
            }
        }
        return found;
    }

    int behind(int a, int b) {
        return noLetter(a) || noLetter(b) ? -1 : allBefore(b).contains(a) ? 1 : 0;
    }

    int past(int letter) {
        return noLetter(letter) ? -1 : allBefore(letter).size();
    }

    /** A longest row goes by direct steps alone: a step over others could be made longer. */
    int chain(int a, int b) {
        if (noLetter(a) || noLetter(b)) {
            return -1;
        }
        return a == b ? 0 : longest(a, b, new Integer[letters.size()]);
    }

    private int longest(int a, int b, Integer[] known) {
        if (a == b) {
            return 1;
        }
        if (known[b] == null) {
            int best = 0;
            for (int step : letters.get(b).direct) {
                best = Math.max(best, longest(a, step, known));
            }
            known[b] = best == 0 ? 0 : best + 1;
        }
        return known[b];
    }

    int act(int letter, int act, int x) {
        if (noLetter(letter) || act < 0 || act >= ACT_NAMES.length) {
            return no(1);
        }
        bodies.clear();
        Note l = letters.get(letter);
        switch (ACT_NAMES[act]) {
            case "age": return yes(l.age(x));
            case "bear": return yes(l.bear(x));
            case "give": return yes(l.give(x));
            default: return yes(l.waits(x));
        }
    }

    int trace(int i) {
        return i < 0 || i >= 60 || i >= bodies.size() ? -1 : bodies.get(i);
    }

    int bare(int member, int slot, int letter) {
        if (noMember(member) || slot < 0 || slot > 39 || noLetter(letter)) {
            return no(1);
        }
        if (people.get(member).slots[slot] != null) {
            return no(3);
        }
        people.get(member).slots[slot] = letters.get(letter).clock;
        return yes(1);
    }

    int slot(int member, int slot) {
        if (noMember(member) || slot < 0 || slot > 39) {
            return -1;
        }
        Thing thing = people.get(member).slots[slot];
        return thing == null ? 0 : thing instanceof Note note ? 2 + note.kind : 1;
    }

    int forge(int member, int slot, int what, int n) {
        if (noMember(member) || slot < 0 || slot > 39 || what < 0 || what > 7 || n < -100 || n > 100) {
            return no(1);
        }
        try {
            return yes(byHost(people.get(member).slots[slot], what, n));
        } catch (NullPointerException refused) {
            return no(10);
        } catch (ClassCastException refused) {
            return no(11);
        } catch (IndexOutOfBoundsException refused) {
            return no(12);
        } catch (NegativeArraySizeException refused) {
            return no(13);
        } catch (ArrayStoreException refused) {
            return no(14);
        } catch (ArithmeticException refused) {
            return no(15);
        }
    }

    private int byHost(Thing thing, int what, int n) {
        switch (what) {
            case 0: return asKind(thing, ((n % 6) + 6) % 6).q;
            case 1: return firstRow((Clock) thing)[n];
            case 2: return sum(((Clock) thing).rows[n]);
            case 3: return new int[n].length;
            case 4: return copied(firstRow((Clock) thing), n);
            case 5: return stored((Note) thing);
            case 6: return 100 / n;
            default: return thrown(((n % 2) + 2) % 2);
        }
    }

    private Note asKind(Thing thing, int kind) {
        switch (kind) {
            case 0: return (Note) thing;
            case 1: return (Reply) thing;
            case 2: return (Sealed) thing;
            case 3: return (Order) thing;
            case 4: return (View) thing;
            default: return (Flush) thing;
        }
    }

    private static int[] firstRow(Clock clock) {
        for (int[] row : clock.rows) {
            if (row != null) {
                return row;
            }
        }
        return null;
    }

    private static int sum(int[] row) {
        int sum = 0;
        for (int cell : row) {
            sum += cell;
        }
        return sum;
    }

    private static int copied(int[] row, int n) {
        int[] cells = new int[8];
        System.arraycopy(row, 2, cells, n, n);
        return sum(cells);
    }

    private static int stored(Note letter) {
        Note[] row = new Reply[1];
        row[0] = letter;
        return row[0] == null ? 0 : 1;
    }

    private static int thrown(int parity) {
        RuntimeException failure = parity == 0 ? null : new IllegalStateException();
        try {
            throw failure;
        } catch (IllegalStateException caught) {
            return 1;
        }
    }

    int status() {
        return status;
    }
}

import java.util.LinkedHashMap;
import java.util.Map;
import java.util.function.Supplier;
import java.util.function.ToIntFunction;

/** Boundary cases of STATUS and of promise 25; and that refused calls and questions change nothing. */
final class StatusCases {
    private StatusCases() {
    }

    /** Letters of all kinds; some given, some held, some on the line, bare clocks, and a trace. */
    private static ReadingCircles busy() {
        ReadingCircles x = Start.of(4, 7, 14, 3);
        x.write(0, 0, 0);
        x.write(0, 2, 4);
        x.deliver(0, 1);
        x.reply(1, 0, 0);
        x.seal(1, 0, -1);
        x.seal(2, 1, -1);
        x.deliver(4, 1);
        x.write(1, 1, 5);
        x.deliver(2, 2);
        x.deliver(6, 3);
        x.bare(3, 5, 2);
        x.bare(0, 0, 0);
        x.act(6, 3, 1);
        return x;
    }

    /** No member, circle or letter by a call more has room; Orders of member 1 are still to come. */
    private static ReadingCircles full() {
        ReadingCircles x = Start.of(8, 7, 14, 3, 3, 3, 3);
        for (int i = 0; i < 48; i++) {
            x.write(0, 0, 0);
            x.write(1, 2, 4);
        }
        for (int i = 0; i < 4; i++) {
            x.seal(2, 1, -1);
        }
        return x;
    }

    /** Calls that show what an object keeps and no question tells: serials, earlier clocks, rooms. */
    private static ReadingCircles goneOn(ReadingCircles x) {
        for (int member = 0; member < 4; member++) {
            for (int circle = 0; circle < 3; circle++) {
                x.write(member, circle, 0);
                x.seal(member, circle, -1);
            }
        }
        x.deliverAll(0, 1);
        x.deliverAll(2, 0);
        x.deliverAll(1, 1);
        x.member();
        x.circle(24);
        return x;
    }

    private static ReadingCircles after(ReadingCircles x, ToIntFunction<ReadingCircles> call) {
        call.applyAsInt(x);
        return x;
    }

    private static void changesNothing(String name, Supplier<ReadingCircles> start, ToIntFunction<ReadingCircles> call) {
        Answers.same(name, start, () -> after(start.get(), call));
        Answers.same(name + ", then others,", () -> goneOn(start.get()), () -> goneOn(after(start.get(), call)));
    }

    private static void refusedWithout(Supplier<ReadingCircles> start, Map<String, ToIntFunction<ReadingCircles>> calls, int status) {
        for (Map.Entry<String, ToIntFunction<ReadingCircles>> call : calls.entrySet()) {
            ReadingCircles x = start.get();
            Due.refused(call.getKey(), x, call.getValue().applyAsInt(x), status);
            changesNothing(call.getKey(), start, call.getValue());
        }
    }

    @Case("Terms, STATUS: by 1 nothing else is changed, and -1 is answered")
    static void nothingChangedByNoSuch() {
        Map<String, ToIntFunction<ReadingCircles>> calls = new LinkedHashMap<>();
        calls.put("circle(1)", x -> x.circle(1));
        calls.put("circle(17)", x -> x.circle(17));
        calls.put("write(4, 0, 0)", x -> x.write(4, 0, 0));
        calls.put("write(0, 3, 0)", x -> x.write(0, 3, 0));
        calls.put("write(0, 0, 3)", x -> x.write(0, 0, 3));
        calls.put("reply(0, 0, -1)", x -> x.reply(0, 0, -1));
        calls.put("seal(0, 0, -2)", x -> x.seal(0, 0, -2));
        calls.put("deliver(99, 1)", x -> x.deliver(99, 1));
        calls.put("deliver(0, 4)", x -> x.deliver(0, 4));
        calls.put("deliverAll(3, 0)", x -> x.deliverAll(3, 0));
        calls.put("deliverAll(0, 2)", x -> x.deliverAll(0, 2));
        calls.put("act(99, 0, 0)", x -> x.act(99, 0, 0));
        calls.put("act(0, 4, 0)", x -> x.act(0, 4, 0));
        calls.put("bare(0, 1, 99)", x -> x.bare(0, 1, 99));
        calls.put("bare(0, 40, 0)", x -> x.bare(0, 40, 0));
        calls.put("forge(3, 0, 8, 0)", x -> x.forge(3, 0, 8, 0));
        calls.put("forge(3, 0, 0, 101)", x -> x.forge(3, 0, 0, 101));
        refusedWithout(StatusCases::busy, calls, 1);
    }

    @Case("Terms, STATUS: by 2 nothing else is changed, and -1 is answered")
    static void nothingChangedByNoRoom() {
        Map<String, ToIntFunction<ReadingCircles>> calls = new LinkedHashMap<>();
        calls.put("member()", ReadingCircles::member);
        calls.put("circle(3)", x -> x.circle(3));
        calls.put("write(1, 1, 0)", x -> x.write(1, 1, 0));
        calls.put("reply(1, 1, 1)", x -> x.reply(1, 1, 1));
        calls.put("seal(1, 1, -1)", x -> x.seal(1, 1, -1));
        refusedWithout(StatusCases::full, calls, 2);
    }

    @Case("Terms, STATUS: by 3 nothing else is changed, and -1 is answered")
    static void nothingChangedByNotSo() {
        Map<String, ToIntFunction<ReadingCircles>> calls = new LinkedHashMap<>();
        calls.put("write(3, 0, 0)", x -> x.write(3, 0, 0));
        calls.put("reply(2, 0, 1)", x -> x.reply(2, 0, 1));
        calls.put("reply(3, 0, 4)", x -> x.reply(3, 0, 4));
        calls.put("seal(3, 0, -1)", x -> x.seal(3, 0, -1));
        calls.put("seal(2, 0, 0)", x -> x.seal(2, 0, 0));
        calls.put("deliver(0, 0)", x -> x.deliver(0, 0));
        calls.put("deliver(0, 1)", x -> x.deliver(0, 1));
        calls.put("deliver(0, 3)", x -> x.deliver(0, 3));
        calls.put("deliver(2, 2)", x -> x.deliver(2, 2));
        calls.put("bare(0, 0, 1)", x -> x.bare(0, 0, 1));
        calls.put("bare(3, 0, 1)", x -> x.bare(3, 0, 1));
        refusedWithout(StatusCases::busy, calls, 3);
    }

    @Case("Terms, STATUS: by 10 .. 15, each by its name, nothing else is changed, and -1 is answered")
    static void nothingChangedByHost() {
        Map<String, ToIntFunction<ReadingCircles>> calls = new LinkedHashMap<>();
        calls.put("forge(3, 9, 0, 0)", x -> x.forge(3, 9, 0, 0));
        calls.put("forge(3, 0, 1, 0)", x -> x.forge(3, 0, 1, 0));
        calls.put("forge(3, 5, 2, 6)", x -> x.forge(3, 5, 2, 6));
        calls.put("forge(3, 5, 3, -1)", x -> x.forge(3, 5, 3, -1));
        calls.put("forge(3, 0, 5, 0)", x -> x.forge(3, 0, 5, 0));
        calls.put("forge(3, 0, 6, 0)", x -> x.forge(3, 0, 6, 0));
        int status = 10;
        for (Map.Entry<String, ToIntFunction<ReadingCircles>> call : calls.entrySet()) {
            refusedWithout(StatusCases::busy, Map.of(call.getKey(), call.getValue()), status);
            status++;
        }
    }

    @Case("Terms, STATUS: by a forge that is done nothing else is changed")
    static void nothingChangedByForge() {
        int[] slots = {0, 9, 5, 0, 5, 9, 0, 0};
        int[] numbers = {0, 0, 0, 7, 2, 0, 7, 1};
        for (int i = 1; i < 8; i++) {
            int what = i;
            int slot = what == 1 ? 5 : slots[what];
            String name = "forge(3, " + slot + ", " + what + ", " + numbers[what] + ")";
            ReadingCircles x = busy();
            x.forge(3, slot, what, numbers[what]);
            Due.is(name + " is done", x.status(), 0);
            changesNothing(name, StatusCases::busy, y -> y.forge(3, slot, what, numbers[what]));
        }
        changesNothing("forge(3, 0, 0, 5)", StatusCases::busy, y -> y.forge(3, 0, 0, 5));
    }

    @Case("Terms, STATUS: by an act nothing is changed but THE TRACE")
    static void nothingChangedByAct() {
        for (int letter = 0; letter < 7; letter++) {
            for (int act = 0; act < 4; act++) {
                int asked = letter;
                int with = act;
                Answers.same("act(" + letter + ", " + act + ", 7), then as before,", StatusCases::busy,
                    () -> after(after(busy(), x -> x.act(asked, with, 7)), x -> x.act(6, 3, 1)));
            }
        }
    }

    private static int allQuestions(ReadingCircles x, int number) {
        return x.count(number) + x.told(number, number) + x.circleTold(number, number) + x.state(number, number)
            + x.given(number, number, number) + x.read(number, number) + x.why(number, number, number) + x.late(number)
            + x.behind(number, number) + x.past(number) + x.chain(number, number) + x.trace(number)
            + x.slot(number, number) + x.status();
    }

    @Case("Promise 25, questions change neither STATUS nor anything else, whether answered or not")
    static void questionsChangeNothing() {
        for (int number : new int[] {0, 1, 2, -1, 99, Start.LOW, Start.HIGH}) {
            Answers.sameWithStatus("questions with " + number, StatusCases::busy, () -> after(busy(), x -> allQuestions(x, number)));
        }
        Answers.sameWithStatus("chain(0, 6)", StatusCases::busy, () -> after(busy(), x -> x.chain(0, 6)));
        Answers.sameWithStatus("why(3, 6, 2)", StatusCases::busy, () -> after(busy(), x -> x.why(3, 6, 2)));
    }

    @Case("Promise 25, questions leave the STATUS of a refused call")
    static void questionsLeaveRefusal() {
        ReadingCircles x = busy();
        x.forge(3, 9, 0, 0);
        for (int number : new int[] {0, 1, 2, -1, 99}) {
            allQuestions(x, number);
            Due.is("status() after questions with " + number, x.status(), 10);
        }
    }

    @Case("Promise 25, 0 of a new object")
    static void statusOfNew() {
        Due.is("status()", new ReadingCircles().status(), 0);
    }

    @Case("Promise 25, the STATUS of the latest call: each of the ten that is done sets 0 behind a refusal")
    static void doneBehindRefusal() {
        Map<String, ToIntFunction<ReadingCircles>> calls = new LinkedHashMap<>();
        calls.put("member()", ReadingCircles::member);
        calls.put("circle(3)", x -> x.circle(3));
        calls.put("write(0, 0, 0)", x -> x.write(0, 0, 0));
        calls.put("reply(0, 0, 0)", x -> x.reply(0, 0, 0));
        calls.put("seal(0, 0, -1)", x -> x.seal(0, 0, -1));
        calls.put("deliver(2, 0)", x -> x.deliver(2, 0));
        calls.put("deliverAll(0, 0)", x -> x.deliverAll(0, 0));
        calls.put("act(0, 0, 0)", x -> x.act(0, 0, 0));
        calls.put("bare(0, 1, 0)", x -> x.bare(0, 1, 0));
        calls.put("forge(3, 0, 3, 0)", x -> x.forge(3, 0, 3, 0));
        for (Map.Entry<String, ToIntFunction<ReadingCircles>> call : calls.entrySet()) {
            ReadingCircles x = busy();
            x.deliver(0, 0);
            Due.is("status() before", x.status(), 3);
            call.getValue().applyAsInt(x);
            Due.is("status() after " + call.getKey(), x.status(), 0);
        }
    }

    @Case("Promise 25, the STATUS of the latest call: a refusal behind another with another STATUS")
    static void refusalBehindRefusal() {
        ReadingCircles x = busy();
        int[] want = {3, 15, 1, 10, 14, 13, 3, 12, 11};
        x.deliver(0, 0);
        Due.is("deliver(0, 0)", x.status(), want[0]);
        x.forge(0, 0, 6, 0);
        Due.is("forge(0, 0, 6, 0)", x.status(), want[1]);
        x.circle(0);
        Due.is("circle(0)", x.status(), want[2]);
        x.forge(0, 1, 1, 0);
        Due.is("forge(0, 1, 1, 0)", x.status(), want[3]);
        x.forge(3, 0, 5, 0);
        Due.is("forge(3, 0, 5, 0)", x.status(), want[4]);
        x.forge(0, 0, 3, -1);
        Due.is("forge(0, 0, 3, -1)", x.status(), want[5]);
        x.bare(0, 0, 0);
        Due.is("bare(0, 0, 0)", x.status(), want[6]);
        x.forge(0, 0, 1, 8);
        Due.is("forge(0, 0, 1, 8)", x.status(), want[7]);
        x.forge(0, 0, 0, 0);
        Due.is("forge(0, 0, 0, 0)", x.status(), want[8]);
    }

    @Case("Terms, STATUS: where several hold, the lowest: 10 before 12, 11 before 12")
    static void lowestOfTheHosts() {
        ReadingCircles x = busy();
        for (int what : new int[] {1, 2, 4}) {
            Due.refused("nothing, what " + what, x, x.forge(3, 9, what, -1), 10);
            Due.refused("a letter, what " + what, x, x.forge(3, 0, what, -1), 11);
            Due.refused("a clock, what " + what, x, x.forge(3, 5, what, -1), 12);
        }
    }

    @Case("Terms, STATUS: where several hold, the lowest: 1 before 10 .. 15")
    static void noSuchBeforeTheHosts() {
        ReadingCircles x = busy();
        Due.refused("nothing", x, x.forge(3, 9, 0, 101), 1);
        Due.refused("a letter", x, x.forge(3, 0, 1, 101), 1);
        Due.refused("a clock", x, x.forge(3, 5, 1, 101), 1);
        Due.refused("a size below 0", x, x.forge(3, 0, 3, -101), 1);
        Due.refused("one that does not fit", x, x.forge(3, 0, 5, 101), 1);
        Due.refused("divided by 0", x, x.forge(4, 0, 6, 0), 1);
        Due.refused("a failure", x, x.forge(3, 40, 7, 0), 1);
    }
}

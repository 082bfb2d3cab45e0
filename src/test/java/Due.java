import java.util.function.IntUnaryOperator;

/** Counts and prints the calls whose answers are not the ones that are due. */
final class Due {
    private static String about = "";
    private static int wrong = 0;
    private static int asked = 0;

    private Due() {
    }

    /** All that is printed from here on is told with this name before it. */
    static void about(String named) {
        about = named.isEmpty() ? "" : named + ": ";
    }

    static int asked() {
        return asked;
    }

    static void is(String call, long got, long want) {
        asked++;
        if (got != want) {
            wrong++;
            System.out.println(about + call + " answered " + got + ", due is " + want);
        }
    }

    static void isTrue(String what, boolean holds) {
        is(what, holds ? 1 : 0, 1);
    }

    /** Asks with 0, 1, .. for as many answers as are due. */
    static void row(String call, IntUnaryOperator question, int... want) {
        for (int i = 0; i < want.length; i++) {
            is(call + " with " + i, question.applyAsInt(i), want[i]);
        }
    }

    static void refused(String call, ReadingCircles x, int got, int status) {
        is(call, got, -1);
        is(call + ", then status()", x.status(), status);
    }

    static void done(String call, ReadingCircles x, int got, int want) {
        is(call, got, want);
        is(call + ", then status()", x.status(), 0);
    }

    static void end(String tests) {
        System.out.println(tests + ": " + asked + " answers asked, " + wrong + " not as due");
        if (wrong != 0) {
            System.exit(1);
        }
    }
}

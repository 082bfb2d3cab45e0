import java.lang.reflect.InvocationTargetException;
import java.lang.reflect.Method;
import java.util.Arrays;
import java.util.Comparator;
import java.util.regex.Matcher;
import java.util.regex.Pattern;

/** Runs every Case, and asks that each promise and the Terms have some. */
public final class BoundaryTests {
    private static final Class<?>[] CASES = {
        TermsCases.class, GivingCases.class, WritingCases.class, DeliveryCases.class, QuestionCases.class,
        PastCases.class, ActCases.class, HoldCases.class, ForgeCases.class, StatusCases.class,
    };
    private static final int PROMISES = 25;
    private static final Pattern NAME = Pattern.compile("(Terms|Promise (\\d+)), .+");

    private BoundaryTests() {
    }

    public static void main(String[] args) throws IllegalAccessException {
        int[] cases = new int[PROMISES + 1];
        for (Class<?> some : CASES) {
            Method[] methods = some.getDeclaredMethods();
            Arrays.sort(methods, Comparator.comparing(Method::getName));
            for (Method method : methods) {
                Case named = method.getAnnotation(Case.class);
                if (named != null) {
                    cases[promiseOf(named.value())]++;
                    run(method, named.value());
                }
            }
        }
        Due.about("");
        for (int promise = 0; promise <= PROMISES; promise++) {
            Due.isTrue("promise " + promise + " (0: Terms) has cases", cases[promise] > 0);
        }
        System.out.println("BoundaryTests: " + Arrays.stream(cases).sum() + " cases");
        Due.end("BoundaryTests");
    }

    private static int promiseOf(String name) {
        Matcher parts = NAME.matcher(name);
        if (!parts.matches()) {
            Due.isTrue(name + ": names a promise and a case", false);
            return 0;
        }
        return parts.group(2) == null ? 0 : Integer.parseInt(parts.group(2));
    }

    private static void run(Method method, String name) throws IllegalAccessException {
        Due.about(name);
        int before = Due.asked();
        try {
            method.invoke(null);
        } catch (InvocationTargetException thrown) {
            Due.isTrue("throws no " + thrown.getCause(), false);
        }
        Due.isTrue("asks something", Due.asked() > before);
    }
}

import java.io.IOException;
import java.lang.reflect.Constructor;
import java.lang.reflect.Executable;
import java.lang.reflect.Field;
import java.lang.reflect.InvocationTargetException;
import java.lang.reflect.Method;
import java.lang.reflect.Modifier;
import java.nio.file.Files;
import java.nio.file.Path;
import java.util.ArrayList;
import java.util.Arrays;
import java.util.List;
import java.util.Random;
import java.util.Set;
import java.util.TreeSet;
import java.util.regex.Matcher;
import java.util.regex.Pattern;

/** What can be seen of LANGUAGE.md from outside: the face, and words that may not stand there. */
public final class LanguageTests {
    private static final String[] FACE = {
        "member()", "circle(int)", "write(int,int,int)", "reply(int,int,int)", "seal(int,int,int)",
        "deliver(int,int)", "deliverAll(int,int)", "count(int)", "told(int,int)", "circleTold(int,int)",
        "state(int,int)", "given(int,int,int)", "read(int,int)", "why(int,int,int)", "late(int)",
        "behind(int,int)", "past(int)", "chain(int,int)", "act(int,int,int)", "trace(int)",
        "bare(int,int,int)", "slot(int,int)", "forge(int,int,int,int)", "status()",
    };
    private static final String[] FORBIDDEN = {
        "\\bthrow\\b", "\\btry\\b", "\\bcatch\\b", "\\bsynchronized\\b", "\\bassert\\b", "\\bimport\\b",
        "\\bpackage\\b", "->", "::", "\\bprotected\\b", "\\bstatic\\s*\\{", "Exact\\b", "\\bSystem\\.(?!arraycopy)",
        "\\bhashCode\\b", "\\btoString\\b", "\\bThread\\b", "\\bRandom\\b",
    };

    private static final int MOST_CLASSES = 12;
    private static final int MOST_FIELDS = 20;
    private static final int MOST_PARAMETERS = 7;
    private static final int MOST_LINES = 60;
    private static final int[] NUMBERS = {-101, -2, -1, 0, 0, 0, 1, 1, 2, 3, 4, 5, 6, 7, 8, 39, 40, 99, 100, 199, 200, Start.LOW, Start.HIGH};

    private LanguageTests() {
    }

    public static void main(String[] args) throws IOException, IllegalAccessException {
        String source = Files.readString(Path.of("src/main/java/ReadingCircles.java"));
        face();
        fields();
        sizes();
        words(source);
        methodLengths(source);
        noCallThrows();
        Due.end("LanguageTests");
    }

    private static void face() {
        Set<String> wanted = new TreeSet<>(Set.of(FACE));
        Set<String> names = new TreeSet<>();
        for (String method : wanted) {
            names.add(method.substring(0, method.indexOf('(')));
        }
        for (Method method : ReadingCircles.class.getDeclaredMethods()) {
            String shown = shown(method);
            if (Modifier.isPublic(method.getModifiers())) {
                Due.is("face has " + shown, wanted.remove(shown) ? 1 : 0, 1);
                Due.is(shown + " answers an int", method.getReturnType() == int.class ? 1 : 0, 1);
            } else {
                Due.is(shown + " is private", Modifier.isPrivate(method.getModifiers()) ? 1 : 0, 1);
                Due.is(shown + " has a public name", names.contains(method.getName()) ? 1 : 0, 0);
            }
        }
        Due.is("methods that lack: " + wanted, wanted.size(), 0);
        Constructor<?>[] constructors = ReadingCircles.class.getDeclaredConstructors();
        Due.is("constructors", constructors.length, 1);
        Due.is("the constructor's parameters", constructors[0].getParameterCount(), 0);
        Due.is("the constructor is public", Modifier.isPublic(constructors[0].getModifiers()) ? 1 : 0, 1);
        Due.is("the class is final", Modifier.isFinal(ReadingCircles.class.getModifiers()) ? 1 : 0, 1);
    }

    private static String shown(Method method) {
        StringBuilder shown = new StringBuilder(method.getName()).append('(');
        for (Class<?> type : method.getParameterTypes()) {
            shown.append(shown.charAt(shown.length() - 1) == '(' ? "" : ",").append(type.getSimpleName());
        }
        return shown.append(')').toString();
    }

    private static void fields() {
        for (Field field : ReadingCircles.class.getDeclaredFields()) {
            Due.is(field.getName() + " is private", Modifier.isPrivate(field.getModifiers()) ? 1 : 0, 1);
            boolean loose = Modifier.isStatic(field.getModifiers()) && !Modifier.isFinal(field.getModifiers());
            Due.is(field.getName() + " is static and not final", loose ? 1 : 0, 0);
        }
        for (Class<?> inside : ReadingCircles.class.getDeclaredClasses()) {
            Due.is(inside.getName() + " is static", Modifier.isStatic(inside.getModifiers()) ? 1 : 0, 1);
            Due.is(inside.getName() + " is public", Modifier.isPublic(inside.getModifiers()) ? 1 : 0, 0);
        }
    }

    private static List<Class<?>> classes() {
        List<Class<?>> all = new ArrayList<>(List.of(ReadingCircles.class));
        all.addAll(Arrays.asList(ReadingCircles.class.getDeclaredClasses()));
        return all;
    }

    private static void sizes() {
        Due.isTrue("rule 11: few classes", classes().size() <= MOST_CLASSES);
        for (Class<?> one : classes()) {
            int fields = 0;
            for (Field field : one.getDeclaredFields()) {
                fields += Modifier.isStatic(field.getModifiers()) ? 0 : 1;
            }
            Due.isTrue("rule 11: few fields in " + one, fields <= MOST_FIELDS);
            List<Executable> called = new ArrayList<>(Arrays.asList(one.getDeclaredMethods()));
            called.addAll(Arrays.asList(one.getDeclaredConstructors()));
            for (Executable method : called) {
                Due.isTrue("rule 11: few parameters of " + method, method.getParameterCount() <= MOST_PARAMETERS);
            }
        }
    }

    /** A method's lines are those from its head to the first line that closes it at the same depth. */
    private static void methodLengths(String source) {
        Matcher method = Pattern.compile("(?ms)^( {4}| {8})\\w[^\n;={]*\\([^\n;]*\\{\n(.*?)^\\1\\}").matcher(source);
        int found = 0;
        while (method.find()) {
            found++;
            Due.isTrue("rule 11: short: " + method.group().lines().findFirst().orElse(""),
                method.group().lines().count() <= MOST_LINES);
        }
        Due.isTrue("methods are found", found > FACE.length);
    }

    /** Rule 7, for any arguments in any state: so also far past the calls whose answers are promised. */
    private static void noCallThrows() throws IllegalAccessException {
        Method[] methods = Arrays.stream(ReadingCircles.class.getDeclaredMethods())
            .filter(method -> Modifier.isPublic(method.getModifiers())).toArray(Method[]::new);
        Arrays.sort(methods, (a, b) -> a.getName().compareTo(b.getName()));
        for (int seed = 0; seed < 40; seed++) {
            Random random = new Random(seed);
            ReadingCircles x = seed % 2 == 0 ? new ReadingCircles() : Start.of(8, 255, 3, 254, 170, 85, 129);
            for (int call = 0; call < 5000; call++) {
                throwsNothing(x, methods[random.nextInt(methods.length)], random);
            }
        }
    }

    private static void throwsNothing(ReadingCircles x, Method method, Random random) throws IllegalAccessException {
        Object[] numbers = new Object[method.getParameterCount()];
        for (int i = 0; i < numbers.length; i++) {
            numbers[i] = NUMBERS[random.nextInt(NUMBERS.length)];
        }
        try {
            method.invoke(x, numbers);
        } catch (InvocationTargetException thrown) {
            Due.isTrue("rule 7: " + method.getName() + Arrays.toString(numbers) + " throws no " + thrown.getCause(), false);
        }
    }

    private static void words(String source) {
        String bare = source.replaceAll("(?s)/\\*.*?\\*/", " ").replaceAll("//[^\n]*", " ");
        for (String word : FORBIDDEN) {
            Matcher found = Pattern.compile(word).matcher(bare);
            Due.is("the source has " + word, found.find() ? 1 : 0, 0);
        }
    }
}

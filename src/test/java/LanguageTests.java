import java.io.IOException;
import java.lang.reflect.Constructor;
import java.lang.reflect.Field;
import java.lang.reflect.Method;
import java.lang.reflect.Modifier;
import java.nio.file.Files;
import java.nio.file.Path;
import java.util.Set;
import java.util.TreeSet;
import java.util.regex.Matcher;
import java.util.regex.Pattern;

/** What can be seen of LANGUAGE.md from outside: the face, and words that may not stand there. */
public final class LanguageTests {
    private static final String[] FACE = {
        "member()", "circle(int)", "write(int,int,int)", "reply(int,int,int)", "seal(int,int,int)",
        "deliver(int,int)", "deliverAll(int,int)", "count(int)", "told(int,int)", "circleTold(int,int)",
        "state(int,int)", "given(int,int,int)", "read(int,int)", "why(int,int,int)", "late(int)",
        "behind(int,int)", "past(int)", "chain(int,int)", "act(int,int,int)", "trace(int)",
        "bare(int,int,int)", "slot(int,int)", "forge(int,int,int,int)", "status()",
    };
    private static final String[] FORBIDDEN = {
        "\\bthrow\\b", "\\btry\\b", "\\bcatch\\b", "\\bsynchronized\\b", "\\bassert\\b", "\\bimport\\b",
        "\\bpackage\\b", "->", "::", "\\bprotected\\b", "\\bstatic\\s*\\{", "Exact\\b", "\\bSystem\\.(?!arraycopy)",
        "\\bhashCode\\b", "\\btoString\\b", "\\bThread\\b", "\\bRandom\\b",
    };

    private LanguageTests() {
    }

    public static void main(String[] args) throws IOException {
        face();
        fields();
        words(Files.readString(Path.of("src/main/java/ReadingCircles.java")));
        Due.end("LanguageTests");
    }

    private static void face() {
        Set<String> wanted = new TreeSet<>(Set.of(FACE));
        Set<String> names = new TreeSet<>();
        for (String method : wanted) {
            names.add(method.substring(0, method.indexOf('(')));
        }
        for (Method method : ReadingCircles.class.getDeclaredMethods()) {
            String shown = shown(method);
            if (Modifier.isPublic(method.getModifiers())) {
                Due.is("face has " + shown, wanted.remove(shown) ? 1 : 0, 1);
                Due.is(shown + " answers an int", method.getReturnType() == int.class ? 1 : 0, 1);
            } else {
                Due.is(shown + " is private", Modifier.isPrivate(method.getModifiers()) ? 1 : 0, 1);
                Due.is(shown + " has a public name", names.contains(method.getName()) ? 1 : 0, 0);
            }
        }
        Due.is("methods that lack: " + wanted, wanted.size(), 0);
        Constructor<?>[] constructors = ReadingCircles.class.getDeclaredConstructors();
        Due.is("constructors", constructors.length, 1);
        Due.is("the constructor's parameters", constructors[0].getParameterCount(), 0);
        Due.is("the constructor is public", Modifier.isPublic(constructors[0].getModifiers()) ? 1 : 0, 1);
        Due.is("the class is final", Modifier.isFinal(ReadingCircles.class.getModifiers()) ? 1 : 0, 1);
    }

    private static String shown(Method method) {
        StringBuilder shown = new StringBuilder(method.getName()).append('(');
        for (Class<?> type : method.getParameterTypes()) {
            shown.append(shown.charAt(shown.length() - 1) == '(' ? "" : ",").append(type.getSimpleName());
        }
        return shown.append(')').toString();
    }

    private static void fields() {
        for (Field field : ReadingCircles.class.getDeclaredFields()) {
            Due.is(field.getName() + " is private", Modifier.isPrivate(field.getModifiers()) ? 1 : 0, 1);
            boolean loose = Modifier.isStatic(field.getModifiers()) && !Modifier.isFinal(field.getModifiers());
            Due.is(field.getName() + " is static and not final", loose ? 1 : 0, 0);
        }
        for (Class<?> inside : ReadingCircles.class.getDeclaredClasses()) {
            Due.is(inside.getName() + " is static", Modifier.isStatic(inside.getModifiers()) ? 1 : 0, 1);
            Due.is(inside.getName() + " is public", Modifier.isPublic(inside.getModifiers()) ? 1 : 0, 0);
        }
    }

    private static void words(String source) {
        String bare = source.replaceAll("(?s)/\\*.*?\\*/", " ").replaceAll("//[^\n]*", " ");
        for (String word : FORBIDDEN) {
            Matcher found = Pattern.compile(word).matcher(bare);
            Due.is("the source has " + word, found.find() ? 1 : 0, 0);
        }
    }
}

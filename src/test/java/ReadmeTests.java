import java.io.File;
import java.io.IOException;
import java.lang.reflect.InvocationTargetException;
import java.lang.reflect.Method;
import java.nio.file.Files;
import java.nio.file.Path;
import java.util.ArrayList;
import java.util.HashMap;
import java.util.List;
import java.util.Map;
import java.util.Random;
import java.util.Set;
import java.util.TreeMap;
import java.util.TreeSet;
import java.util.regex.Matcher;
import java.util.regex.Pattern;

/** Asks the class, the document and the project's files whether what README.md says is so. */
public final class ReadmeTests {
    private static final Pattern BLOCK = Pattern.compile("(?s)```java\n(.*?)```");
    private static final Pattern STEP =
        Pattern.compile("(?:int (\\w+) = )?x\\.(\\w+)\\((.*?)\\);\\s+// (-?\\d+)(?:: .+)?");
    private static final Pattern CALL = Pattern.compile("\\| `(\\w+)` \\| [^|]+ \\| ([\\d, ]+) \\|");
    private static final Pattern FORGED = Pattern.compile("\\| (\\d) \\| [^|]+ \\| ([\\d, ]+) \\|");
    private static final Pattern QUESTION = Pattern.compile("\\| `(\\w+)` \\| [^|]+ \\|");
    private static final Pattern TESTS = Pattern.compile("`(\\w+Tests)`");
    private static final String NEW_OBJECT = "ReadingCircles x = new ReadingCircles();";
    private static final String FACE = "public final class ReadingCircles {";
    private static final int RUNS = 2000;
    /** Each is five calls at most, so that no object is used for more than 512. */
    private static final int ROUNDS = 70;

    private final String readme = Files.readString(Path.of("README.md"));
    private final Map<String, Method> methods = new TreeMap<>();
    private final Map<String, Set<Integer>> seen = new TreeMap<>();
    private final Map<Integer, Set<Integer>> seenForged = new TreeMap<>();

    private ReadmeTests() throws IOException {
        for (Method method : ReadingCircles.class.getMethods()) {
            if (method.getDeclaringClass() == ReadingCircles.class) {
                methods.put(method.getName(), method);
            }
        }
    }

    public static void main(String[] args) throws IOException {
        ReadmeTests tests = new ReadmeTests();
        tests.examples();
        tests.face();
        tests.everyCallIsTold();
        tests.refusals();
        tests.testsAreNamed();
        Due.end("ReadmeTests");
    }

    private List<String> blocks(String text, String firstLine) {
        List<String> found = new ArrayList<>();
        Matcher block = BLOCK.matcher(text);
        while (block.find()) {
            if (block.group(1).startsWith(firstLine)) {
                found.add(block.group(1));
            }
        }
        return found;
    }

    private void examples() {
        List<String> examples = blocks(readme, NEW_OBJECT);
        Due.is("examples", examples.size(), 2);
        for (String example : examples) {
            ReadingCircles x = new ReadingCircles();
            Map<String, Integer> named = new HashMap<>();
            example.lines().skip(1).forEach(line -> step(x, line, named));
        }
    }

    private void step(ReadingCircles x, String line, Map<String, Integer> named) {
        Matcher step = STEP.matcher(line);
        if (!step.matches() || !methods.containsKey(step.group(2))) {
            Due.isTrue("can be read: " + line, false);
            return;
        }
        String[] words = step.group(3).isEmpty() ? new String[0] : step.group(3).split(", ");
        int[] numbers = new int[words.length];
        for (int i = 0; i < words.length; i++) {
            numbers[i] = named.containsKey(words[i]) ? named.get(words[i]) : Integer.parseInt(words[i]);
        }
        int answer = call(x, step.group(2), numbers);
        Due.is(line, answer, Integer.parseInt(step.group(4)));
        if (step.group(1) != null) {
            named.put(step.group(1), answer);
        }
    }

    private int call(ReadingCircles x, String name, int... numbers) {
        Object[] arguments = new Object[numbers.length];
        for (int i = 0; i < numbers.length; i++) {
            arguments[i] = numbers[i];
        }
        try {
            return (int) methods.get(name).invoke(x, arguments);
        } catch (IllegalAccessException | InvocationTargetException thrown) {
            throw new IllegalStateException(name, thrown);
        }
    }

    private void face() throws IOException {
        List<String> told = blocks(readme, FACE);
        Due.isTrue("the face is the document's", told.size() == 1
            && told.equals(blocks(Files.readString(Path.of("../shared/DOC.md")), FACE)));
    }

    private Map<String, Set<Integer>> table(Pattern row) {
        Map<String, Set<Integer>> rows = new TreeMap<>();
        readme.lines().map(row::matcher).filter(Matcher::matches).forEach(found -> {
            Set<Integer> statuses = new TreeSet<>();
            for (int i = 2; i <= found.groupCount(); i++) {
                for (String status : found.group(i).split(", ")) {
                    statuses.add(Integer.parseInt(status));
                }
            }
            Due.isTrue(found.group(1) + " is told once", rows.put(found.group(1), statuses) == null);
        });
        return rows;
    }

    private void everyCallIsTold() {
        Set<String> told = new TreeSet<>(table(CALL).keySet());
        for (String question : table(QUESTION).keySet()) {
            Due.isTrue(question + " is a call or a question, not both", told.add(question));
        }
        Due.isTrue("all calls are told: " + told, told.equals(methods.keySet()));
    }

    /** Sees which statuses calls are refused with, in empty and in full objects. */
    private void refusals() {
        Map<String, Set<Integer>> calls = table(CALL);
        calls.keySet().forEach(name -> seen.put(name, new TreeSet<>()));
        for (int seed = 0; seed < RUNS; seed++) {
            play(new Random(seed), start(seed), new ArrayList<>(calls.keySet()));
        }
        calls.forEach((name, statuses) ->
            Due.isTrue(name + " is refused with " + seen.get(name), statuses.equals(seen.get(name))));
        Map<String, Set<Integer>> forged = table(FORGED);
        Due.is("rows of forge", forged.size(), seenForged.size());
        forged.forEach((what, statuses) -> {
            Set<Integer> host = seenForged.get(Integer.parseInt(what));
            Due.isTrue("forge of " + what + " is refused with " + host, statuses.equals(host));
        });
    }

    private static ReadingCircles start(int seed) {
        switch (seed % 4) {
            case 0: return new ReadingCircles();
            case 1: return Start.of(4, 3, 15, 12);
            case 2: return withFullSlots();
            default: return Start.withHundredLetters();
        }
    }

    private static ReadingCircles withFullSlots() {
        ReadingCircles x = Start.withSlotsOfAllKinds();
        for (int slot = 0; slot < 9; slot++) {
            x.bare(0, slot, 0);
        }
        return x;
    }

    private void play(Random random, ReadingCircles x, List<String> calls) {
        List<String> all = new ArrayList<>(methods.keySet());
        for (int i = 0; i < ROUNDS; i++) {
            change(x, calls.get(random.nextInt(calls.size())), random);
            ask(x, all.get(random.nextInt(all.size())), random);
        }
    }

    private int[] numbersFor(String name, Random random) {
        return random.ints(methods.get(name).getParameterCount(), -2, 9).toArray();
    }

    private void change(ReadingCircles x, String name, Random random) {
        int[] numbers = numbersFor(name, random);
        int answer = call(x, name, numbers);
        int status = x.status();
        if (status == 0) {
            return;
        }
        Due.is(name + " is refused", answer, -1);
        seen.get(name).add(status);
        if (name.equals("forge") && status >= 10) {
            seenForged.computeIfAbsent(numbers[2], what -> new TreeSet<>()).add(status);
        }
    }

    private void ask(ReadingCircles x, String name, Random random) {
        if (!seen.containsKey(name)) {
            int status = x.status();
            call(x, name, numbersFor(name, random));
            Due.is(name + ", then status()", x.status(), status);
        }
    }

    private void testsAreNamed() {
        Set<String> named = new TreeSet<>();
        Matcher found = TESTS.matcher(readme);
        while (found.find()) {
            named.add(found.group(1));
        }
        Set<String> there = new TreeSet<>();
        for (String file : new File("src/test/java").list()) {
            if (file.endsWith("Tests.java")) {
                there.add(file.substring(0, file.length() - ".java".length()));
            }
        }
        Due.isTrue("the tests are " + there, named.equals(there));
        Due.isTrue(".ci/run can be run", new File(".ci/run").canExecute());
    }
}

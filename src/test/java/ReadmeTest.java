import java.io.IOException;
import java.lang.reflect.InvocationTargetException;
import java.lang.reflect.Method;
import java.lang.reflect.Modifier;
import java.nio.charset.StandardCharsets;
import java.nio.file.Files;
import java.nio.file.Path;
import java.util.HashSet;
import java.util.List;
import java.util.Set;
import java.util.regex.Matcher;
import java.util.regex.Pattern;
import java.util.stream.Collectors;
import java.util.stream.Stream;

/**
 * README.md shows promises 1 to 21 in an example: each of its calls has the answer behind it that
 * the class gives, and so does the document written once more.
 */
public final class ReadmeTest {
    private static final Pattern CALL =
            Pattern.compile("x\\.(\\w+)\\(([^()]*)\\);\\s+// (-?\\d+|NONE|BAD|NOT|FULL)(:.*)?");
    private static final List<String> NAMES = List.of("NONE", "BAD", "NOT", "FULL");

    public static void main(String[] args) throws IOException, ReflectiveOperationException {
        String page = Files.readString(Path.of("README.md"), StandardCharsets.UTF_8);
        List<String> example = example(page);
        answers("the class: ", ScoreReader.class, example);
        answers("the document once more: ", PlainReader.class, example);
        showsEachCall(example);
        namesEachTest(page);
        Due.is("README.md names the command that runs the tests", page.contains("\n.ci/run\n") ? 1 : 0, 1);
        Due.is("and that command can be run", Files.isExecutable(Path.of(".ci/run")) ? 1 : 0, 1);
        Due.end("ReadmeTest");
    }

    /** The lines of code, but for those that are empty; the first makes the object. */
    private static List<String> example(String page) {
        Matcher code = Pattern.compile("(?s)```java\n(.*?)```").matcher(page);
        Due.is("README.md has an example", code.find() ? 1 : 0, 1);
        List<String> lines = code.group(1).lines().filter(line -> !line.isBlank()).toList();
        Due.is("the example makes an object", lines.get(0).equals("ScoreReader x = new ScoreReader();") ? 1 : 0, 1);
        Due.is("and has no other example behind it", code.find() ? 1 : 0, 0);
        return lines.subList(1, lines.size());
    }

    private static void answers(String whose, Class<?> made, List<String> example)
            throws ReflectiveOperationException {
        Object x = maker(made);
        for (String line : example) {
            Matcher call = CALL.matcher(line);
            boolean reads = call.matches();
            Due.is("a call with its answer: " + line, reads ? 1 : 0, 1);
            if (reads) {
                Due.is(whose + line, answer(x, call.group(1), call.group(2)), due(call.group(3)));
            }
        }
    }

    private static Object maker(Class<?> made) throws ReflectiveOperationException {
        try {
            return made.getDeclaredConstructor().newInstance();
        } catch (InvocationTargetException thrown) {
            throw new IllegalStateException(made + " can't be made", thrown);
        }
    }

    private static int due(String word) {
        return NAMES.contains(word) ? -1 - NAMES.indexOf(word) : Integer.parseInt(word);
    }

    private static int answer(Object x, String name, String args) throws ReflectiveOperationException {
        String[] words = args.isEmpty() ? new String[0] : args.split(",\\s*");
        for (Method m : x.getClass().getDeclaredMethods()) {
            Class<?>[] types = m.getParameterTypes();
            if (m.getName().equals(name) && !Modifier.isPrivate(m.getModifiers()) && types.length == words.length) {
                Object[] values = new Object[words.length];
                for (int i = 0; i < words.length; i++) {
                    values[i] = value(words[i], types[i]);
                }
                return (Integer) m.invoke(x, values);
            }
        }
        Due.is("there is a call " + name + "(" + args + ")", 0, 1);
        return 0;
    }

    /** A number, "true" or "false", or a number that is shifted: "3L << 40". */
    private static Object value(String word, Class<?> type) {
        if (type == boolean.class) {
            return word.equals("true");
        }
        String[] parts = word.replace("L", "").split(" << ");
        long number = Long.parseLong(parts[0]) << (parts.length > 1 ? Integer.parseInt(parts[1]) : 0);
        if (type == long.class) {
            return number;
        }
        return Math.toIntExact(number);
    }

    private static void showsEachCall(List<String> example) {
        Set<String> shown = new HashSet<>();
        for (String line : example) {
            Matcher call = CALL.matcher(line);
            if (call.matches()) {
                shown.add(call.group(1));
            }
        }
        for (Method m : ScoreReader.class.getDeclaredMethods()) {
            if (Modifier.isPublic(m.getModifiers())) {
                Due.is("the example shows " + m.getName(), shown.contains(m.getName()) ? 1 : 0, 1);
            }
        }
    }

    private static void namesEachTest(String page) throws IOException {
        Set<String> tests;
        try (Stream<Path> files = Files.list(Path.of("src/test/java"))) {
            tests = files.map(file -> file.getFileName().toString()).filter(name -> name.endsWith("Test.java"))
                    .map(name -> name.replace(".java", "")).collect(Collectors.toSet());
        }
        Matcher named = Pattern.compile("`(\\w+Test)`").matcher(page);
        Set<String> names = new HashSet<>();
        while (named.find()) {
            names.add(named.group(1));
        }
        Due.is("README.md names " + names + ", there are " + tests, names.equals(tests) ? 1 : 0, 1);
    }
}

import java.io.IOException;
import java.lang.reflect.Executable;
import java.lang.reflect.Field;
import java.lang.reflect.Method;
import java.lang.reflect.Modifier;
import java.nio.charset.StandardCharsets;
import java.nio.file.Files;
import java.nio.file.Path;
import java.util.ArrayList;
import java.util.Arrays;
import java.util.HashSet;
import java.util.List;
import java.util.Set;
import java.util.regex.Matcher;
import java.util.regex.Pattern;

/** What ../shared/LANGUAGE.md asks of the program's file, as far as it can be told by looking at it. */
public final class LanguageTest {
    private static final String[] BANNED = {"package", "import", "throw", "throws", "try", "catch",
        "finally", "synchronized", "assert", "volatile", "native", "transient", "protected", "strictfp",
        "Thread", "Runtime", "Random", "Object", "Class", "Exception", "Error", "Override", "equals",
        "hashCode", "getClass", "nanoTime", "currentTimeMillis", "out", "err", "in", "exit", "goto"};
    private static final String[] BANNED_SIGNS = {"->", "::", "@", "\"\"\"", "static {", "\\u"};
    private static final int MOST_PARAMETERS = 7, MOST_LINES = 60, MOST_CLASSES = 12, MOST_FIELDS = 20;

    public static void main(String[] args) throws IOException {
        String source = Files.readString(Path.of("src/main/java/ScoreReader.java"), StandardCharsets.ISO_8859_1);
        rule4Signs(source);
        rules2To6Words(withoutComments(source));
        rule4Library(withoutComments(source));
        rule11Lines(source);
        List<Class<?>> classes = new ArrayList<>();
        classes.add(ScoreReader.class);
        classes.addAll(Arrays.asList(ScoreReader.class.getDeclaredClasses()));
        Due.is("rule 11: classes, " + classes.size(), classes.size() <= MOST_CLASSES ? 1 : 0, 1);
        for (Class<?> c : classes) {
            rule2Nested(c);
            rule5StaticFields(c);
            rule11FieldsAndParameters(c);
        }
        rule1Names(classes);
        Due.end("LanguageTest");
    }

    private static String withoutComments(String source) {
        return source.replaceAll("(?s)/\\*.*?\\*/", " ").replaceAll("//[^\n]*", " ");
    }

    private static void rule4Signs(String source) {
        for (int i = 0; i < source.length(); i++) {
            char c = source.charAt(i);
            if (c > 126 || c < 32 && c != '\n') {
                Due.is("rule 4: the sign at " + i, c, ' ');
            }
        }
    }

    private static void rules2To6Words(String code) {
        for (String word : BANNED) {
            boolean stands = Pattern.compile("\\b" + word + "\\b").matcher(code).find();
            Due.is("rules 2 to 6: the word '" + word + "'", stands ? 1 : 0, 0);
        }
        for (String signs : BANNED_SIGNS) {
            Due.is("rules 2 to 6: '" + signs + "'", code.contains(signs) ? 1 : 0, 0);
        }
        Due.is("rule 4: '..Exact'", Pattern.compile("Exact\\(").matcher(code).find() ? 1 : 0, 0);
    }

    /** Of the library nothing is used but these. */
    private static void rule4Library(String code) {
        Set<String> known = new HashSet<>(Arrays.asList("Math.min", "Math.max", "Math.floorDiv",
                "Long.bitCount"));
        Matcher m = Pattern.compile("\\b(Math|Long|Integer|System|Arrays|List|String|StringBuilder)\\b(\\.\\w+)?")
                .matcher(code);
        while (m.find()) {
            Due.is("rule 4: " + m.group(), known.contains(m.group()) ? 1 : 0, 1);
        }
    }

    private static void rule11Lines(String source) {
        String[] lines = source.split("\n");
        for (int i = 0; i < lines.length; i++) {
            if (!lines[i].matches(" {4}( {4})?\\S.*\\) \\{")) {
                continue;
            }
            String end = lines[i].replaceAll("\\S.*", "") + "}";
            int last = i;
            while (last < lines.length && !lines[last].equals(end)) {
                last++;
            }
            Due.is("rule 11: the lines of " + lines[i].trim(), last - i < MOST_LINES ? 1 : 0, 1);
        }
    }

    private static void rule2Nested(Class<?> c) {
        Due.is("rule 2: " + c + " has classes inside", c == ScoreReader.class ? 0 : c.getDeclaredClasses().length, 0);
        if (c != ScoreReader.class) {
            int m = c.getModifiers();
            Due.is("rule 1: " + c + " is static", Modifier.isStatic(m) ? 1 : 0, 1);
            Due.is("rule 1: " + c + " is not public", Modifier.isPublic(m) || Modifier.isProtected(m) ? 1 : 0, 0);
            Due.is("rule 2: " + c + " extends", c.getSuperclass() == Object.class ? 1 : 0, 1);
        }
    }

    private static void rule5StaticFields(Class<?> c) {
        for (Field f : c.getDeclaredFields()) {
            if (Modifier.isStatic(f.getModifiers())) {
                Class<?> type = f.getType();
                boolean constant = type == int.class || type == long.class || type == boolean.class
                        || type == char.class || type == String.class;
                Due.is("rule 5: " + f + " is final", Modifier.isFinal(f.getModifiers()) ? 1 : 0, 1);
                Due.is("rule 5: " + f + " is a constant", constant ? 1 : 0, 1);
            }
        }
    }

    private static void rule11FieldsAndParameters(Class<?> c) {
        long fields = Arrays.stream(c.getDeclaredFields()).filter(f -> !Modifier.isStatic(f.getModifiers())).count();
        Due.is("rule 11: the fields of " + c, fields <= MOST_FIELDS ? 1 : 0, 1);
        List<Executable> all = new ArrayList<>(Arrays.asList(c.getDeclaredMethods()));
        all.addAll(Arrays.asList(c.getDeclaredConstructors()));
        for (Executable e : all) {
            Due.is("rule 11: the parameters of " + e, e.getParameterCount() <= MOST_PARAMETERS ? 1 : 0, 1);
        }
    }

    private static void rule1Names(List<Class<?>> classes) {
        Set<String> face = new HashSet<>();
        for (Method m : ScoreReader.class.getDeclaredMethods()) {
            if (Modifier.isPublic(m.getModifiers())) {
                face.add(m.getName());
            }
        }
        for (Class<?> c : classes) {
            for (Method m : c.getDeclaredMethods()) {
                boolean hidden = Modifier.isPrivate(m.getModifiers());
                Due.is("rule 1: " + m + " has a name of the face", hidden && face.contains(m.getName()) ? 1 : 0, 0);
            }
        }
    }
}

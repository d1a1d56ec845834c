import java.lang.reflect.Constructor;
import java.lang.reflect.Field;
import java.lang.reflect.Method;
import java.lang.reflect.Modifier;
import java.util.Arrays;
import java.util.Set;
import java.util.TreeSet;

/** The class's face is the document's, and nothing more. */
public final class FaceTest {
    private static final String[] FACE = {
        "row(int,long)", "ink(int,int,int,int,boolean)", "run(int)", "dot(int,int)", "lines()",
        "staff(int,int)", "find()", "sign(int,int)", "kind(int,int,int,int,int)", "set(int,int)",
        "correct(int,int)", "best()", "read(int)", "doubt(int)", "question()", "measures()",
        "note(int,int,int)", "sway(int,int)", "played(int)", "count(int)"};

    public static void main(String[] args) {
        Set<String> names = new TreeSet<>();
        for (Method m : ScoreReader.class.getDeclaredMethods()) {
            if (!Modifier.isPrivate(m.getModifiers()) && !m.isSynthetic()) {
                names.add(signature(m));
                Due.is(m + " answers an int", m.getReturnType() == int.class ? 1 : 0, 1);
                Due.is(m + " is public, not static", m.getModifiers(), Modifier.PUBLIC);
            }
        }
        Set<String> want = new TreeSet<>(Arrays.asList(FACE));
        Due.is("methods " + names, names.equals(want) ? 1 : 0, 1);
        for (Field f : ScoreReader.class.getDeclaredFields()) {
            boolean ofTheFace = Arrays.asList("NONE", "BAD", "NOT", "FULL").contains(f.getName());
            Due.is(f + " is private or of the face", Modifier.isPrivate(f.getModifiers()) ? 0 : 1,
                    ofTheFace ? 1 : 0);
        }
        Constructor<?>[] made = ScoreReader.class.getDeclaredConstructors();
        Due.is("constructors", made.length, 1);
        Due.is("the constructor is public", made[0].getModifiers(), Modifier.PUBLIC);
        Due.is("public and final", ScoreReader.class.getModifiers(), Modifier.PUBLIC | Modifier.FINAL);
        Due.is("NONE", ScoreReader.NONE, -1);
        Due.is("BAD", ScoreReader.BAD, -2);
        Due.is("NOT", ScoreReader.NOT, -3);
        Due.is("FULL", ScoreReader.FULL, -4);
        Due.end("FaceTest");
    }

    private static String signature(Method m) {
        StringBuilder types = new StringBuilder();
        for (Class<?> type : m.getParameterTypes()) {
            types.append(types.length() == 0 ? "" : ",").append(type.getName());
        }
        return m.getName() + "(" + types + ")";
    }
}

import java.lang.reflect.Constructor;
import java.lang.reflect.Field;
import java.lang.reflect.Method;
import java.lang.reflect.Modifier;
import java.util.Arrays;
import java.util.Set;
import java.util.TreeSet;

/** The face is the document's, and nothing beside it can be seen from outside (LANGUAGE.md, rule 1). */
public final class FaceTest {
    private static final String[] METHODS = {
        "int start(int, int)", "int move(int, int, int)", "int seen(int, int, int)", "int named(int, int)",
        "int force(int)", "int begin(int, long)", "int keep(int)", "int step(int, int)", "int again(int)",
        "int rule(int, int)", "int from(int)", "int row(int, int)", "long weight(int)", "int history(int, int)",
        "int write(int, int, int)", "long told(int)", "double evidence()", "int count(int)", "int clear()"};
    private static final String[] CONSTANTS = {"UNKNOWN", "OUTSIDE", "GONE", "LOST", "MUCH", "NONE"};

    public static void main(String[] args) {
        Check.due("UNKNOWN", ResampledRows.UNKNOWN, Check.UNKNOWN);
        Check.due("OUTSIDE", ResampledRows.OUTSIDE, Check.OUTSIDE);
        Check.due("GONE", ResampledRows.GONE, Check.GONE);
        Check.due("LOST", ResampledRows.LOST, Check.LOST);
        Check.due("MUCH", ResampledRows.MUCH, Check.MUCH);
        Check.due("NONE", ResampledRows.NONE, Check.NONE);
        dueSame("methods", seenMethods(), METHODS);
        dueSame("fields", seenFields(), CONSTANTS);
        dueNoHiddenNamesake();
        Constructor<?>[] made = ResampledRows.class.getDeclaredConstructors();
        Check.due("constructors", made.length, 1);
        Check.due("a public constructor", made[0].getModifiers(), Modifier.PUBLIC);
        Check.due("its parameters", made[0].getParameterCount(), 0);
        Check.due("public and final", ResampledRows.class.getModifiers(), Modifier.PUBLIC | Modifier.FINAL);
        Check.end();
    }

    private static Set<String> seenMethods() {
        Set<String> found = new TreeSet<>();
        for (Method m : ResampledRows.class.getDeclaredMethods()) {
            if (!Modifier.isPrivate(m.getModifiers())) {
                String types = Arrays.toString(m.getParameterTypes());
                found.add(m.getReturnType() + " " + m.getName() + "(" + types.substring(1, types.length() - 1) + ")");
            }
        }
        return found;
    }

    private static Set<String> seenFields() {
        Set<String> found = new TreeSet<>();
        for (Field f : ResampledRows.class.getDeclaredFields()) {
            if (!Modifier.isPrivate(f.getModifiers())) {
                found.add(f.getName());
            }
        }
        return found;
    }

    private static void dueNoHiddenNamesake() {
        Set<String> faceNames = new TreeSet<>();
        for (String m : METHODS) {
            faceNames.add(m.substring(m.indexOf(' ') + 1, m.indexOf('(')));
        }
        for (Class<?> inside : ResampledRows.class.getDeclaredClasses()) {
            for (Method m : inside.getDeclaredMethods()) {
                Check.due(inside.getName() + "." + m.getName() + " bears a name of the face",
                    faceNames.contains(m.getName()) ? 1 : 0, 0);
            }
        }
    }

    private static void dueSame(String what, Set<String> found, String[] want) {
        Set<String> wanted = new TreeSet<>(Arrays.asList(want));
        if (!found.equals(wanted)) {
            Check.due(what + " " + found + " instead of " + wanted, 0, 1);
        }
    }
}

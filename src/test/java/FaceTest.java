import java.lang.reflect.Constructor;
import java.lang.reflect.Field;
import java.lang.reflect.Method;
import java.lang.reflect.Modifier;
import java.util.Set;
import java.util.TreeSet;

/** The public face, and rule 1 of LANGUAGE.md. */
public final class FaceTest {
    public static void main(String[] args) {
        Class<?> face = StreamFilters.class;
        Checks.due("public and final", face.getModifiers(), Modifier.PUBLIC | Modifier.FINAL);
        same("methods", methods(face), Set.of("int type(int,long)", "int clear(int)", "int read(int,boolean)",
            "int fault()", "int join(int,int,int)", "int strict(int,int,boolean)", "int otherwise(int,int,int)",
            "int only(int,int)", "int drop(int)", "int stream(int,int,int)", "int ask(int,int,int,int)",
            "int trace(int)", "int filter(int,int)", "int pattern(int,int,boolean)", "int sign(int,int)"));
        same("fields", fields(face), Set.of("int UNDECIDED", "int ALLOWED", "int REJECTED", "int DONE",
            "int REFUSED", "int BAD", "int FULL"));
        same("constructors", constructors(face), Set.of("public StreamFilters()"));
        constants();
        nestedClasses(face);
        privateNames(face);
        Checks.end();
    }

    private static Set<String> methods(Class<?> face) {
        Set<String> found = new TreeSet<>();
        for (Method method : face.getDeclaredMethods()) {
            if (!Modifier.isPrivate(method.getModifiers())) {
                String shown = method.toString().replace("StreamFilters.", "");
                found.add(shown.replaceFirst("^public ", ""));
            }
        }
        return found;
    }

    private static Set<String> fields(Class<?> face) {
        Set<String> found = new TreeSet<>();
        for (Field field : face.getDeclaredFields()) {
            if (!Modifier.isPrivate(field.getModifiers())) {
                String shown = field.toString().replace("StreamFilters.", "");
                found.add(shown.replaceFirst("^public static final ", ""));
            }
        }
        return found;
    }

    private static Set<String> constructors(Class<?> face) {
        Set<String> found = new TreeSet<>();
        for (Constructor<?> constructor : face.getDeclaredConstructors()) {
            found.add(constructor.toString());
        }
        return found;
    }

    private static void constants() {
        Checks.due("UNDECIDED", StreamFilters.UNDECIDED, 0);
        Checks.due("ALLOWED", StreamFilters.ALLOWED, 1);
        Checks.due("REJECTED", StreamFilters.REJECTED, 2);
        Checks.due("DONE", StreamFilters.DONE, 0);
        Checks.due("REFUSED", StreamFilters.REFUSED, -1);
        Checks.due("BAD", StreamFilters.BAD, -2);
        Checks.due("FULL", StreamFilters.FULL, -3);
    }

    private static void nestedClasses(Class<?> face) {
        for (Class<?> nested : face.getDeclaredClasses()) {
            int modifiers = nested.getModifiers();
            boolean right = Modifier.isStatic(modifiers)
                    && !Modifier.isPublic(modifiers) && !Modifier.isProtected(modifiers);
            Checks.due(nested + " is static and not seen outside", right ? 1 : 0, 1);
        }
    }

    private static void privateNames(Class<?> face) {
        Set<String> open = new TreeSet<>();
        for (Method method : face.getMethods()) {
            open.add(method.getName());
        }
        for (Method method : face.getDeclaredMethods()) {
            boolean twice = Modifier.isPrivate(method.getModifiers()) && open.contains(method.getName());
            Checks.due(method + " bears a public name", twice ? 1 : 0, 0);
        }
    }

    private static void same(String what, Set<String> found, Set<String> due) {
        if (!found.equals(due)) {
            Checks.due(what + " " + found + " instead of " + new TreeSet<>(due), 0, 1);
        }
    }
}

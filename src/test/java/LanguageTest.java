import java.lang.reflect.Executable;
import java.lang.reflect.Field;
import java.lang.reflect.Modifier;
import java.nio.file.Files;
import java.nio.file.Path;
import java.util.ArrayList;
import java.util.List;
import java.util.Set;
import java.util.regex.Matcher;
import java.util.regex.Pattern;

/**
 * Rules of LANGUAGE.md that the source's words and its classes show; the others are kept by reading. It is stricter
 * than the rules where the program needs less than they leave.
 */
public final class LanguageTest {
    private static final Path PROGRAM = Path.of("src/main/java/StreamFilters.java");
    private static final int MOST_CLASSES = 12;
    private static final int MOST_FIELDS = 20;
    private static final int MOST_PARAMETERS = 7;
    private static final int MOST_LINES = 60;

    /** What the program does not need: rules 2, 3, 4, 6, 9 and 13 rule it out or bound it. */
    private static final String[] STRANGE_WORDS = {"import", "package", "try", "catch", "finally", "throw", "throws",
        "synchronized", "assert", "volatile", "transient", "native", "strictfp", "double", "float", "while", "do",
        "equals", "hashCode", "toString", "System", "Thread", "Object", "Override"};
    private static final String[] STRANGE_SIGNS = {"->", "::", "[][]", "@", "<>", "/ ", "%"};
    private static final Set<String> LIBRARY = Set.of("Math.max", "word.length", "word.charAt");

    public static void main(String[] args) throws Exception {
        String code = withoutComments(Files.readString(PROGRAM));
        words(code);
        library(code);
        methodsAreShort(code);
        List<Class<?>> classes = new ArrayList<>(List.of(StreamFilters.class.getDeclaredClasses()));
        classes.add(StreamFilters.class);
        Checks.due("rule 11: few classes", classes.size() <= MOST_CLASSES ? 1 : 0, 1);
        for (Class<?> one : classes) {
            fields(one);
            parameters(one);
        }
        Checks.end();
    }

    private static String withoutComments(String source) {
        return source.replaceAll("(?s)/\\*.*?\\*/", "").replaceAll("//[^\n]*", "");
    }

    private static void words(String code) {
        String unquoted = code.replaceAll("'.'", "' '").replaceAll("\"[^\"]*\"", "\"\"");
        for (String word : STRANGE_WORDS) {
            boolean found = Pattern.compile("\\b" + word + "\\b").matcher(unquoted).find();
            Checks.due("the word " + word + " in the program", found ? 1 : 0, 0);
        }
        for (String signs : STRANGE_SIGNS) {
            Checks.due("the signs " + signs + " in the program", unquoted.contains(signs) ? 1 : 0, 0);
        }
    }

    /** Rule 4: what is called of Math and of the one String that the program names. */
    private static void library(String code) {
        Matcher call = Pattern.compile("\\b((?:[A-Z][A-Za-z]*|word)\\.[a-zA-Z]+)\\(").matcher(code);
        while (call.find()) {
            Checks.due("the call " + call.group(1) + " is a known one", LIBRARY.contains(call.group(1)) ? 1 : 0, 1);
        }
        Matcher text = Pattern.compile("\\bString (\\w+)").matcher(code);
        while (text.find()) {
            Checks.due("a String " + text.group(1), text.group(1).equals("word") ? 1 : 0, 1);
        }
    }

    private static void methodsAreShort(String code) {
        Matcher method = Pattern.compile("(?m)^( {4}| {8})[A-Za-z][\\w \\[\\]]*\\([^;{]*\\) \\{\\n((?:.*\\n)*?)\\1\\}$")
                .matcher(code);
        int found = 0;
        while (method.find()) {
            found++;
            long lines = method.group().lines().count();
            Checks.due("rule 11: " + method.group().lines().findFirst().get(), lines <= MOST_LINES ? 1 : 0, 1);
        }
        Checks.due("rule 11: methods were found: " + found, found > 50 ? 1 : 0, 1);
    }

    private static void fields(Class<?> one) {
        int own = 0;
        for (Field field : one.getDeclaredFields()) {
            if (Modifier.isStatic(field.getModifiers())) {
                boolean constant = Modifier.isFinal(field.getModifiers()) && field.getType() == int.class;
                Checks.due("rule 5: " + field + " is a constant", constant ? 1 : 0, 1);
            } else {
                own++;
            }
        }
        Checks.due("rule 11: few fields in " + one, own <= MOST_FIELDS ? 1 : 0, 1);
    }

    private static void parameters(Class<?> one) {
        List<Executable> all = new ArrayList<>(List.of(one.getDeclaredMethods()));
        all.addAll(List.of(one.getDeclaredConstructors()));
        for (Executable each : all) {
            Checks.due("rule 11: few parameters of " + each, each.getParameterCount() <= MOST_PARAMETERS ? 1 : 0, 1);
        }
    }
}

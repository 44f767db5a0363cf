import java.io.IOException;
import java.lang.reflect.Method;
import java.lang.reflect.Modifier;
import java.nio.file.Files;
import java.nio.file.Path;
import java.util.Comparator;
import java.util.List;
import java.util.stream.Stream;

/** README.md: its example compiles and prints what stands there, and each call of the face is told. */
public final class ReadmeTest {
    private static final String CLASS_PATH = System.getProperty("java.class.path");

    public static void main(String[] args) throws Exception {
        String readme = Files.readString(Path.of("README.md"));
        Path place = Files.createTempDirectory("readme");
        try {
            printsWhatIsSaid(block(readme, "java"), block(readme, "text"), place);
        } finally {
            remove(place);
        }
        tellsEachCall(readme);
        Checks.end();
    }

    /** What stands in the first block of the kind. */
    private static String block(String readme, String kind) {
        String fence = "```" + kind + "\n";
        int from = readme.indexOf(fence);
        int end = readme.indexOf("\n```", from + fence.length());
        boolean there = from >= 0 && end >= 0;
        Checks.due("README.md has a block of " + kind, there ? 1 : 0, 1);
        return there ? readme.substring(from + fence.length(), end) : "";
    }

    private static void printsWhatIsSaid(String program, String said, Path place) throws Exception {
        Path source = place.resolve("Example.java");
        Path printed = place.resolve("printed");
        Files.writeString(source, program);
        String classes = Path.of(CLASS_PATH).toAbsolutePath() + ":" + place;
        int compiled = run(printed, "javac", "-cp", classes, "-d", place.toString(), source.toString());
        Checks.due("javac of the example: " + Files.readString(printed), compiled, 0);
        if (compiled == 0) {
            Checks.due("exit code of the example", run(printed, "java", "-cp", classes, "Example"), 0);
            same(Files.readAllLines(printed), said.lines().toList());
        }
    }

    private static int run(Path printed, String... command) throws Exception {
        ProcessBuilder builder = new ProcessBuilder(command);
        return builder.redirectErrorStream(true).redirectOutput(printed.toFile()).start().waitFor();
    }

    private static void same(List<String> printed, List<String> said) {
        for (int i = 0; i < Math.max(printed.size(), said.size()); i++) {
            String one = i < printed.size() ? printed.get(i) : "no line";
            String other = i < said.size() ? said.get(i) : "no line";
            Checks.due("the example prints '" + one + "', said is '" + other + "'", one.equals(other) ? 1 : 0, 1);
        }
    }

    private static void tellsEachCall(String readme) {
        for (Method method : StreamFilters.class.getDeclaredMethods()) {
            if (Modifier.isPublic(method.getModifiers())) {
                boolean told = readme.contains("| `" + method.getName() + "(");
                Checks.due("README.md tells " + method.getName(), told ? 1 : 0, 1);
            }
        }
    }

    private static void remove(Path place) throws IOException {
        try (Stream<Path> all = Files.walk(place)) {
            for (Path path : all.sorted(Comparator.reverseOrder()).toList()) {
                Files.delete(path);
            }
        }
    }
}

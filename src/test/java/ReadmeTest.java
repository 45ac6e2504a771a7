import java.io.IOException;
import java.nio.file.Files;
import java.nio.file.Path;
import java.util.Set;
import java.util.TreeSet;
import java.util.regex.Matcher;
import java.util.regex.Pattern;
import java.util.stream.Stream;

/** README.md says how to use the class as it is, and how to run the tests that there are. */
public final class ReadmeTest {
    private static final Path PROGRAM = Path.of("src/main/java/Exlibristrail.java");
    private static final Path TESTS = Path.of("src/test/java");
    private static final Pattern EXAMPLE = Pattern.compile("```java\n(.*?)```", Pattern.DOTALL);
    private static final Pattern CALL = Pattern.compile("trail\\.(\\w+\\([^()]*\\)); +// (.+)");
    private static final Pattern ROW = Pattern.compile("^\\| `(\\w+\\([^()]*\\))` \\| \\S.* \\|$", Pattern.MULTILINE);
    private static final Pattern METHOD = Pattern.compile("^    public \\w+ (\\w+)\\(([^()]*)\\)", Pattern.MULTILINE);

    private ReadmeTest() {
    }

    public static void main(String[] args) throws IOException {
        String readme = Files.readString(Path.of("README.md"));
        example(readme);
        eachMethodIsTold(readme, Files.readString(PROGRAM));
        eachTestIsTold(readme);
        Check.close();
    }

    /** Each call of the example is made, and must answer what stands behind it. */
    private static void example(String readme) {
        Matcher example = EXAMPLE.matcher(readme);
        Check.is("there is an example", example.find(), true);
        Run run = new Run("README.md");
        int calls = 0;
        for (String line : example.group(1).split("\n")) {
            Matcher call = CALL.matcher(line);
            if (call.matches()) {
                String due = call.group(2);
                run.then(call.group(1) + (due.startsWith("throws ") ? " " : " = ") + due);
                calls++;
            } else {
                boolean isOther = line.isBlank() || line.startsWith("// ")
                        || line.equals("Exlibristrail trail = new Exlibristrail();");
                Check.is("the example's line '" + line + "' can be read", isOther, true);
            }
        }
        Check.is("the example has calls", calls > 0, true);
    }

    private static void eachMethodIsTold(String readme, String program) {
        Set<String> due = new TreeSet<>();
        Matcher method = METHOD.matcher(program);
        while (method.find()) {
            due.add(method.group(1) + "(" + method.group(2).replaceAll("\\w+ (\\w+)", "$1") + ")");
        }
        Check.is("the program's methods are found", due.size(), Exlibristrail.class.getMethods().length
                - Object.class.getMethods().length);
        Set<String> told = new TreeSet<>();
        Matcher row = ROW.matcher(readme);
        while (row.find()) {
            Check.is(row.group(1) + " is told once", told.add(row.group(1)), true);
        }
        Check.is("the methods told", String.join("\n", told), String.join("\n", due));
    }

    private static void eachTestIsTold(String readme) throws IOException {
        String part = readme.substring(Math.max(0, readme.indexOf("## How to run its tests")));
        Check.is("how to run the tests is told", part.contains(".ci/run\n"), true);
        try (Stream<Path> files = Files.list(TESTS)) {
            for (Path file : (Iterable<Path>) files.sorted()::iterator) {
                String name = file.getFileName().toString().replace(".java", "");
                Check.is(name + " is told", part.contains("`" + name + "`"), true);
            }
        }
    }
}

import java.io.IOException;
import java.lang.reflect.Field;
import java.lang.reflect.Method;
import java.lang.reflect.Modifier;
import java.nio.file.Files;
import java.nio.file.Path;
import java.util.ArrayList;
import java.util.List;
import java.util.Map;
import java.util.TreeMap;
import java.util.regex.Matcher;
import java.util.regex.Pattern;

/** Tries what README.md says: its examples, its commands and its tables. */
public final class ReadmeTest {
    private static final Path PLACE = Path.of("build/readme").toAbsolutePath();
    /** A statement with the number behind "//" that it answers. */
    private static final Pattern ANSWERED = Pattern.compile("(int (\\w+) = )?(.+?);\\s+// (-?\\d+(\\.\\d+)?)(, .*)?");
    private static final Pattern TAG = Pattern.compile("\\| `\\{(\\w)N\\}` \\|.*\\((\\d+) (?:to|or) (\\d+)[;)].*");
    private static final Pattern PROPERTY =
            Pattern.compile("\\| (\\d) \\| [^|]* \\| (\\d+) to (\\d+) \\| (\\d+) \\|");
    private static final Pattern CONSTANT = Pattern.compile("\\| (-\\d+) `(\\w+)` \\|.*");
    private static final Pattern CALL = Pattern.compile("\\| `(\\w+)\\((.*)\\)` \\|.*");

    private static final Due d = new Due();

    public static void main(String[] args) throws IOException, InterruptedException, ReflectiveOperationException {
        List<String> readme = Files.readAllLines(Path.of("README.md"));
        examples(block(readme, "java"));
        commands(block(readme, "sh"));
        properties(readme);
        tags(readme);
        constants(readme);
        calls(readme);
        d.due(".ci/run can be run", Files.isExecutable(Path.of(".ci/run")) ? 1 : 0, 1);
        d.end();
    }

    /** The lines of all blocks of a kind. */
    private static List<String> block(List<String> lines, String kind) {
        List<String> found = new ArrayList<>();
        boolean inside = false;
        for (String line : lines) {
            if (line.startsWith("```")) {
                inside = line.equals("```" + kind);
            } else if (inside) {
                found.add(line);
            }
        }
        d.due("there is a block of " + kind, found.isEmpty() ? 0 : 1, 1);
        return found;
    }

    private static void run(String name, String... command) throws IOException, InterruptedException {
        Process process = new ProcessBuilder(command).directory(PLACE.toFile()).inheritIO().start();
        d.due(name, process.waitFor(), 0);
    }

    /** The examples are one program, in which each answer that is told is compared. */
    private static void examples(List<String> lines) throws IOException, InterruptedException {
        StringBuilder program = new StringBuilder("public final class ReadmeExamples {\n");
        program.append("public static void main(String[] args) {\nDue d = new Due();\n");
        int compared = 0;
        for (String line : lines) {
            Matcher matcher = ANSWERED.matcher(line);
            if (matcher.matches()) {
                program.append(comparing(matcher));
                compared++;
            } else {
                d.due("a comment tells an answer: " + line, line.contains("//") ? 1 : 0, 0);
                program.append(line).append('\n');
            }
        }
        program.append("d.end();\n}\n}\n");
        d.due("answers are compared", compared > 0 ? 1 : 0, 1);
        Files.createDirectories(PLACE);
        Files.writeString(PLACE.resolve("ReadmeExamples.java"), program.toString());
        String classes = Path.of("build/project").toAbsolutePath().toString();
        run("javac of the examples", "javac", "-cp", classes, "-d", ".", "ReadmeExamples.java");
        run("the examples", "java", "-cp", classes + System.getProperty("path.separator") + ".", "ReadmeExamples");
    }

    private static String comparing(Matcher matcher) {
        String call = matcher.group(3);
        String due = matcher.group(4);
        String quoted = "\"" + call + "\"";
        if (matcher.group(2) != null) {
            String name = matcher.group(2);
            return "int " + name + " = " + call + ";\nd.due(" + quoted + ", " + name + ", " + due + ");\n";
        }
        if (matcher.group(5) != null) {
            return "d.dueFloat(" + quoted + ", " + call + ", " + due + "f);\n";
        }
        return "d.due(" + quoted + ", " + call + ", " + due + ");\n";
    }

    /** They run beside a link to the sources, so that they build nothing into this test's own classes. */
    private static void commands(List<String> lines) throws IOException, InterruptedException {
        Path sources = PLACE.resolve("src");
        Files.deleteIfExists(sources);
        Files.createSymbolicLink(sources, Path.of("src").toAbsolutePath());
        for (String line : lines) {
            run(line, "sh", "-c", line);
        }
    }

    private static void properties(List<String> lines) {
        int told = 0;
        for (String line : lines) {
            Matcher matcher = PROPERTY.matcher(line);
            if (matcher.matches()) {
                d.due("the property told next", Integer.parseInt(matcher.group(1)), told);
                int least = Integer.parseInt(matcher.group(2));
                int greatest = Integer.parseInt(matcher.group(3));
                d.due("basic value of " + told, new SubtitleStyles().valueOf(-1, told), Integer.parseInt(matcher.group(4)));
                for (int value = -5; value <= 300; value++) {
                    // A value below the least may be -1, which stands for none.
                    SubtitleStyles x = new SubtitleStyles();
                    x.style(-1);
                    x.setStyle(0, told, value);
                    boolean allowed = value >= least && value <= greatest;
                    d.due("the value " + value + " of " + told, x.styleAt(0, told), allowed ? value : -1);
                }
                told++;
            }
        }
        d.due("all properties are told", told, 6);
    }

    private static void tags(List<String> lines) {
        StringBuilder letters = new StringBuilder();
        for (String line : lines) {
            Matcher matcher = TAG.matcher(line);
            if (matcher.matches()) {
                letters.append(matcher.group(1));
                int least = Integer.parseInt(matcher.group(2));
                int greatest = Integer.parseInt(matcher.group(3));
                for (int number : new int[] {least - 1, least, greatest, greatest + 1}) {
                    tag(matcher.group(1), number, number >= least && number <= greatest);
                }
            }
        }
        d.due("the tags are " + letters, letters.toString().equals("sctbkr") ? 1 : 0, 1);
    }

    private static void tag(String letter, int number, boolean allowed) {
        if (number < 0) {
            return;
        }
        SubtitleStyles x = new SubtitleStyles();
        // Ten thousand has a digit too many, the last one of which cannot stand at its place.
        int error = number > 9999 ? -106 : -102;
        d.due("{" + letter + number + "}", Due.line(x, "{" + letter + number + "}", 0, 1, -1), allowed ? 0 : error);
    }

    private static void constants(List<String> lines) throws ReflectiveOperationException {
        int told = 0;
        for (String line : lines) {
            Matcher matcher = CONSTANT.matcher(line);
            if (matcher.matches()) {
                Field constant = SubtitleStyles.class.getField(matcher.group(2));
                d.due(matcher.group(2), constant.getInt(null), Integer.parseInt(matcher.group(1)));
                told++;
            }
        }
        d.due("all constants are told", told, SubtitleStyles.class.getFields().length);
    }

    private static void calls(List<String> lines) {
        Map<String, Integer> told = new TreeMap<>();
        for (String line : lines) {
            Matcher matcher = CALL.matcher(line);
            if (matcher.matches()) {
                String arguments = matcher.group(2);
                told.put(matcher.group(1), arguments.isEmpty() ? 0 : arguments.split(", ").length);
            }
        }
        int face = 0;
        for (Method method : SubtitleStyles.class.getDeclaredMethods()) {
            if (Modifier.isPublic(method.getModifiers())) {
                face++;
                int arguments = told.getOrDefault(method.getName(), -1);
                d.due("the arguments of " + method.getName(), arguments, method.getParameterCount());
            }
        }
        d.due("all calls that are told", told.size(), face);
    }
}

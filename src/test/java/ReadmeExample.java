import java.io.IOException;
import java.lang.reflect.Method;
import java.lang.reflect.Modifier;
import java.nio.file.Files;
import java.nio.file.Path;
import java.util.List;
import java.util.Set;
import java.util.TreeSet;
import java.util.regex.Matcher;
import java.util.regex.Pattern;

/**
 * Makes a test of the example of use in README.md: the example as it is written, to be compiled, and each of
 * its calls with the answer that stands behind it.
 */
final class ReadmeExample {
    private static final Pattern MADE = Pattern.compile("RankBench (\\w+) = new RankBench\\(\\);");
    private static final Pattern CALL = Pattern.compile("(\\w+\\.(\\w+)\\([^()]*\\)); +// (-?\\d+)(?:: .*)?");

    private final Set<String> unasked = new TreeSet<>();
    private final StringBuilder written = new StringBuilder();
    private final StringBuilder asked = new StringBuilder();
    private int refused;

    /** From README.md, the first path, to a Java source, the second one. */
    public static void main(String[] paths) throws IOException {
        ReadmeExample example = new ReadmeExample();
        example.read(Files.readAllLines(Path.of(paths[0])));
        if (example.refused > 0) {
            System.exit(1);
        }
        Files.writeString(Path.of(paths[1]), example.source());
    }

    private ReadmeExample() {
        for (Method method : RankBench.class.getDeclaredMethods()) {
            if (Modifier.isPublic(method.getModifiers())) {
                unasked.add(method.getName());
            }
        }
    }

    private void read(List<String> lines) {
        boolean inside = false;
        for (int i = 0; i < lines.size(); i++) {
            String line = lines.get(i).strip();
            if (line.startsWith("```")) {
                inside = line.equals("```java");
            } else if (inside) {
                take(line, "README.md:" + (i + 1));
            }
        }
        if (!unasked.isEmpty()) {
            refuse("README.md: no example asks " + unasked);
        }
    }

    private void take(String line, String place) {
        Matcher call = CALL.matcher(line);
        Matcher made = MADE.matcher(line);
        if (call.matches()) {
            unasked.remove(call.group(2));
            asked.append(String.format("        check.due(\"%s: %s\", %s, %sL);%n", place, call.group(1),
                    call.group(1), call.group(3)));
        } else if (made.matches()) {
            asked.append("        ").append(line).append('\n');
        } else if (!line.isEmpty() && !line.startsWith("//")) {
            // A call whose answer is not told, or is told in a way that is not read here, would not be tried.
            refuse(place + " is no call with its answer: " + line);
        }
        written.append("        ").append(line).append('\n');
    }

    private void refuse(String why) {
        refused++;
        System.out.println(why);
    }

    private String source() {
        return "final class ReadmeAnswers {\n"
                + "    public static void main(String[] args) {\n"
                + "        Check check = new Check();\n" + asked
                + "        check.end();\n    }\n\n"
                + "    static void asWritten() {\n" + written + "    }\n}\n";
    }
}

import java.io.IOException;
import java.net.URI;
import java.nio.file.Files;
import java.nio.file.Path;
import java.util.ArrayList;
import java.util.List;
import java.util.regex.Matcher;
import java.util.regex.Pattern;
import javax.tools.JavaFileObject;
import javax.tools.SimpleJavaFileObject;
import javax.tools.ToolProvider;

/**
 * The examples of README.md, its third argument: each call with a number behind it is to answer that number. They are
 * compiled beside the tests' own classes.
 */
final class ReadmeTest {
    private static final String EXAMPLES = "ReadmeExamples";
    private static final Pattern ANSWER = Pattern.compile("\\s*(river\\.\\w+\\(.*\\));\\s*// (-?\\d+)\\b.*");

    private ReadmeTest() {
    }

    public static void main(String[] args) throws Exception {
        List<List<String>> examples = examplesOf(Path.of(args[2]));
        Checks.isTrue("there are examples", !examples.isEmpty());
        for (List<String> example : examples) {
            Checks.isTrue("an example tells an answer: " + example, example.stream().anyMatch(ReadmeTest::tells));
        }
        if (compile(sourceOf(examples))) {
            for (int i = 0; i < examples.size(); i++) {
                Class.forName(EXAMPLES).getDeclaredMethod("example" + i).invoke(null);
            }
        } else {
            Checks.isTrue("the examples compile", false);
        }
        Checks.close("ReadmeTest");
    }

    private static boolean tells(String line) {
        return ANSWER.matcher(line).matches();
    }

    private static List<List<String>> examplesOf(Path readme) throws IOException {
        List<List<String>> examples = new ArrayList<>();
        boolean inside = false;
        for (String line : Files.readAllLines(readme)) {
            if (line.startsWith("```")) {
                inside = line.equals("```java");
                if (inside) {
                    examples.add(new ArrayList<>());
                }
            } else if (inside) {
                examples.get(examples.size() - 1).add(line);
            }
        }
        return examples;
    }

    private static String sourceOf(List<List<String>> examples) {
        StringBuilder source = new StringBuilder("final class " + EXAMPLES + " {\n");
        for (int i = 0; i < examples.size(); i++) {
            source.append("static void example").append(i).append("() {\n");
            for (String line : examples.get(i)) {
                source.append(compared(line)).append('\n');
            }
            source.append("}\n");
        }
        return source.append("}\n").toString();
    }

    /** A line that tells an answer becomes one that looks at it; any other stays. */
    private static String compared(String line) {
        Matcher m = ANSWER.matcher(line);
        if (!m.matches()) {
            return line;
        }
        String name = m.group(1).replace("\"", "\\\"");
        return "Checks.due(\"README.md: " + name + "\", " + m.group(1) + ", " + m.group(2) + ");";
    }

    private static boolean compile(String source) {
        JavaFileObject file = new SimpleJavaFileObject(URI.create("string:///" + EXAMPLES + ".java"),
            JavaFileObject.Kind.SOURCE) {
            @Override
            public CharSequence getCharContent(boolean ignoreEncodingErrors) {
                return source;
            }
        };
        String classes = System.getProperty("java.class.path");
        List<String> options = List.of("-proc:none", "--release", "17", "-cp", classes, "-d", classes);
        return ToolProvider.getSystemJavaCompiler().getTask(null, null, null, options, null, List.of(file)).call();
    }
}

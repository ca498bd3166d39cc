import java.io.IOException;
import java.net.URISyntaxException;
import java.nio.file.Files;
import java.nio.file.Path;
import java.util.regex.Matcher;
import java.util.regex.Pattern;
import javax.tools.JavaCompiler;
import javax.tools.ToolProvider;

/** The example of README.md: it compiles as it stands there, and every call answers what stands behind it. */
public final class ReadmeTest {
    private static final Pattern EXAMPLE = Pattern.compile("(?s)```java\n(.*?)```");
    private static final Pattern CALL = Pattern.compile("\\s+(?:mill\\.\\w+|tell)\\(.*");
    private static final Pattern ANSWERED =
        Pattern.compile("(\\s+)((?:mill\\.\\w+|tell)\\(.*\\)); +// (-?\\d+|Long\\.MIN_VALUE|true|false)(?::.*)?");
    private static final String NAME = "Example";

    private ReadmeTest() {
    }

    /** Beside the tests' own classes, so that the example finds the mill and Due. */
    private static Path classes() throws URISyntaxException {
        return Path.of(ReadmeTest.class.getProtectionDomain().getCodeSource().getLocation().toURI());
    }

    private static boolean compiles(String source) throws IOException, URISyntaxException {
        JavaCompiler compiler = ToolProvider.getSystemJavaCompiler();
        Path folder = Files.createTempDirectory("readme");
        Path file = folder.resolve(NAME + ".java");
        Files.writeString(file, source);
        String classes = classes().toString();
        int left = compiler.run(null, null, null, "-cp", classes, "-d", classes, file.toString());
        Files.delete(file);
        Files.delete(folder);
        return left == 0;
    }

    /** The example with each answer asked for; a call without one is a fault of the README. */
    private static String asked(String example) {
        StringBuilder source = new StringBuilder();
        for (String line : example.split("\n")) {
            Matcher answered = ANSWERED.matcher(line);
            if (answered.matches()) {
                String call = answered.group(2);
                String quoted = call.replace("\\", "\\\\").replace("\"", "\\\"");
                source.append("Due.due(\"README: ").append(quoted).append("\", ").append(call).append(", ")
                    .append(answered.group(3)).append(");\n");
            } else {
                Due.due("README: an answer behind [" + line.trim() + "]", !CALL.matcher(line).matches(), true);
                source.append(line).append('\n');
            }
        }
        return source.toString();
    }

    public static void main(String[] args) throws Exception {
        Matcher found = EXAMPLE.matcher(Files.readString(Path.of("README.md")));
        boolean there = found.find();
        Due.due("README has an example", there, true);
        if (there) {
            Due.due("README's example compiles", compiles(found.group(1)), true);
            boolean compiled = compiles(asked(found.group(1)));
            Due.due("README's example compiles with its answers", compiled, true);
            if (compiled) {
                Class.forName(NAME).getMethod("main", String[].class).invoke(null, (Object) new String[0]);
            }
        }
        Due.end("ReadmeTest");
    }
}

import java.io.IOException;
import java.lang.reflect.Field;
import java.lang.reflect.Member;
import java.lang.reflect.Method;
import java.lang.reflect.Modifier;
import java.nio.file.Files;
import java.nio.file.Path;
import java.util.ArrayList;
import java.util.List;
import java.util.regex.Matcher;
import java.util.regex.Pattern;

/** "The public face": every member with the types, names and throws that stand in the document, and no other. */
public final class FaceTest {
    private static final Pattern FACE = Pattern.compile("(?s)## The public face\n+```java\n(.*?)```");
    private static final Pattern SIGNATURE = Pattern.compile("public (\\w+) (\\w+)\\((.*?)\\)(?: throws (.*))?;");

    private FaceTest() {
    }

    private static String face() throws IOException {
        Matcher face = FACE.matcher(Files.readString(Path.of("../shared/DOC.md")));
        boolean there = face.find();
        Due.due("the document has a face", there, true);
        return there ? face.group(1) : "";
    }

    /** Names of parameters are in the source alone. */
    private static void sourceHas(String source, List<String> lines) {
        for (String line : lines) {
            String written = line.endsWith(");") ? line.replace(");", ") {") : line.contains(" throws ") ? line.replace(";", " {") : line;
            Due.due("the source has [" + written + "]", source.contains("\n    " + written + "\n"), true);
        }
    }

    private static String typesOf(Class<?>[] types) {
        List<String> names = new ArrayList<>();
        for (Class<?> type : types) {
            names.add(type.getSimpleName());
        }
        return String.join(", ", names);
    }

    private static String shown(Method method) {
        return method.getReturnType().getSimpleName() + " " + method.getName() + "(" + typesOf(method.getParameterTypes())
            + ") throws " + typesOf(method.getExceptionTypes());
    }

    private static List<String> methodsOfDocument(List<String> lines) {
        List<String> methods = new ArrayList<>();
        for (String line : lines) {
            Matcher m = SIGNATURE.matcher(line);
            if (m.matches()) {
                String types = m.group(3).replaceAll("(\\w+) \\w+", "$1");
                String thrown = m.group(4) == null ? "" : m.group(4);
                methods.add(m.group(1) + " " + m.group(2) + "(" + types + ") throws " + thrown);
            }
        }
        return methods;
    }

    private static boolean isHidden(Member member) {
        return Modifier.isPrivate(member.getModifiers()) || member.isSynthetic();
    }

    private static void methods(List<String> lines) {
        List<String> due = methodsOfDocument(lines);
        Due.due("methods of the document", due.size(), 31);
        for (Method method : ConfessionMill.class.getDeclaredMethods()) {
            if (!isHidden(method)) {
                Due.due("the document has " + shown(method), due.remove(shown(method)), true);
                Due.due(shown(method) + " is public, and no more",
                    method.getModifiers() == Modifier.PUBLIC, true);
            }
        }
        Due.due("the class lacks " + due, due.size(), 0);
    }

    private static void others() throws ReflectiveOperationException {
        Due.due("NONE", ConfessionMill.NONE, -1);
        for (Field field : ConfessionMill.class.getDeclaredFields()) {
            boolean isNone = field.getName().equals("NONE");
            Due.due(field + " is hidden", isHidden(field), !isNone);
            if (isNone) {
                Due.due("NONE's type", field.getType() == int.class, true);
                Due.due("NONE's words", field.getModifiers(), Modifier.PUBLIC | Modifier.STATIC | Modifier.FINAL);
            }
        }
        Due.due("one constructor", ConfessionMill.class.getDeclaredConstructors().length, 1);
        Due.due("its words", ConfessionMill.class.getDeclaredConstructor().getModifiers(), Modifier.PUBLIC);
        Due.due("it throws", ConfessionMill.class.getDeclaredConstructor().getExceptionTypes().length, 0);
        Due.due("the class's words", ConfessionMill.class.getModifiers(), Modifier.PUBLIC | Modifier.FINAL);
        Due.due("nothing above it but Object", ConfessionMill.class.getSuperclass() == Object.class, true);
        Due.due("its interfaces", ConfessionMill.class.getInterfaces().length, 0);
        Due.due("its public classes", ConfessionMill.class.getClasses().length, 0);
    }

    public static void main(String[] args) throws Exception {
        List<String> lines = new ArrayList<>();
        for (String line : face().split("\n")) {
            if (line.startsWith("    public ")) {
                lines.add(line.trim());
            }
        }
        sourceHas(Files.readString(Path.of("src/main/java/ConfessionMill.java")), lines);
        methods(lines);
        others();
        Due.end("FaceTest");
    }
}

import java.io.IOException;
import java.lang.reflect.Constructor;
import java.lang.reflect.Field;
import java.lang.reflect.Method;
import java.lang.reflect.Modifier;
import java.nio.file.Files;
import java.nio.file.Path;
import java.util.List;
import java.util.Set;
import java.util.TreeSet;
import java.util.regex.Matcher;
import java.util.regex.Pattern;

/** Rules of LANGUAGE.md that can be seen in the source or on the class. */
public final class LanguageTest {
    private static final Set<String> FACE = new TreeSet<>(List.of(("feed text fault named look did fine law confess ask fall "
        + "sack flour bake baked days plan planned crumb run tried mills pairs paired lies known fits undo keep back count")
        .split(" ")));
    private static final String[] OUTSIDE = {"->", "::", "Exact(", "synchronized", "finally", "assert ", "catch", "getMessage",
        "System.out", "System.nano", "System.current", "Random", "Thread", "hashCode", "toString", "static {", "float", "double",
        "var ", "package "};

    private static String withoutComments(String source) {
        return source.replaceAll("(?s)/\\*.*?\\*/", "").replaceAll("//[^\n]*", "");
    }

    private static void source(String source) {
        for (String word : OUTSIDE) {
            Due.due("the source has [" + word + "]", source.contains(word) ? 1 : 0, 0);
        }
        Matcher imports = Pattern.compile("import ([^;]+);").matcher(source);
        while (imports.find()) {
            boolean listed = List.of("java.util.Arrays", "java.util.NoSuchElementException").contains(imports.group(1));
            Due.due("import of " + imports.group(1), listed, true);
        }
        Due.due("one top class", source.split("\npublic final class ").length, 2);
        methods(source.split("\n"));
    }

    /** Lengths and parameters, by the lines that open and close a method at its own indent. */
    private static void methods(String[] lines) {
        Pattern head = Pattern.compile("^( {4}| {8})(?! )(?!.*(?:class|=)).*?(\\w+)\\((.*)\\).*\\{$");
        for (int k = 0; k < lines.length; k++) {
            Matcher m = head.matcher(lines[k]);
            if (!m.matches() || lines[k].matches("\\s*(if|for|while|switch|\\}|else).*")) {
                continue;
            }
            int end = k;
            while (end < lines.length && !lines[end].equals(m.group(1) + "}")) {
                end++;
            }
            Due.due(m.group(2) + " is short", end - k <= 60, true);
            Due.due(m.group(2) + " takes few", m.group(3).split(",").length <= 7, true);
        }
    }

    private static void face() {
        Set<String> found = new TreeSet<>();
        for (Method method : ConfessionMill.class.getDeclaredMethods()) {
            boolean isPublic = Modifier.isPublic(method.getModifiers());
            Due.due(method.getName() + " is public or private", isPublic || Modifier.isPrivate(method.getModifiers()), true);
            Due.due(method.getName() + " is of the face", FACE.contains(method.getName()), isPublic);
            if (isPublic) {
                found.add(method.getName());
            }
        }
        Due.due("the whole face", found.equals(FACE), true);
        for (Field field : ConfessionMill.class.getDeclaredFields()) {
            Due.due(field.getName(), Modifier.isPrivate(field.getModifiers()), !field.getName().equals("NONE"));
        }
        Due.due("final", Modifier.isFinal(ConfessionMill.class.getModifiers()), true);
        for (Constructor<?> constructor : ConfessionMill.class.getDeclaredConstructors()) {
            Due.due("constructor", Modifier.isPublic(constructor.getModifiers()) && constructor.getParameterCount() == 0, true);
        }
        classesInside();
    }

    private static void classesInside() {
        Class<?>[] inside = ConfessionMill.class.getDeclaredClasses();
        Due.due("few classes", inside.length < 12, true);
        for (Class<?> one : inside) {
            Due.due(one.getName() + " is static", Modifier.isStatic(one.getModifiers()), true);
            int fields = 0;
            for (Field field : one.getDeclaredFields()) {
                boolean isStatic = Modifier.isStatic(field.getModifiers());
                Due.due(field + " is final if static", !isStatic || Modifier.isFinal(field.getModifiers()), true);
                fields += isStatic ? 0 : 1;
            }
            Due.due(one.getName() + " has few fields", fields <= 20, true);
            for (Method method : one.getDeclaredMethods()) {
                Due.due(one.getName() + "." + method.getName() + " is no name of the face", FACE.contains(method.getName()), false);
            }
        }
    }

    public static void main(String[] args) throws IOException {
        source(withoutComments(Files.readString(Path.of("src/main/java/ConfessionMill.java"))));
        face();
        Due.end("LanguageTest");
    }
}

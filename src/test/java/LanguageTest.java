import java.io.IOException;
import java.lang.reflect.Field;
import java.lang.reflect.Method;
import java.lang.reflect.Modifier;
import java.nio.file.Files;
import java.nio.file.Path;
import java.util.ArrayList;
import java.util.List;
import java.util.Set;
import java.util.TreeSet;
import java.util.regex.Matcher;
import java.util.regex.Pattern;

/** What can be seen of LANGUAGE.md in the program's text and classes; runs in the project's folder. */
public final class LanguageTest {
    private static final Check CHECK = new Check();
    private static final Path PROGRAM = Path.of("src/main/java/HalfFaces.java");
    private static final int MOST_CLASSES = 12;
    private static final int MOST_FIELDS = 20;
    private static final int MOST_PARAMETERS = 7;
    private static final int MOST_LINES = 60;

    private static final String[] RULED_OUT = {"\\bpackage\\b", "\\bimport\\b", "\\bthrows?\\b", "\\btry\\b",
        "\\bcatch\\b", "\\bfinally\\b", "\\bsynchronized\\b", "\\bassert\\b", "\\bprotected\\b", "\\bvolatile\\b",
        "\\bnative\\b", "\\bstatic \\{", "->", "::", "\\w+Exact\\b", "\\bSystem\\.(?!arraycopy\\b)", "\" *\\+",
        "\\+ *\"", "\\b(equals|hashCode|toString)\\("};
    private static final Set<String> STATIC_TYPES = Set.of("int", "long", "boolean", "char", "String", "int[]",
            "long[]", "char[]", "byte[]");
    /** A row or an object of its own, made for a field: by a field's initialiser or by the constructor. */
    private static final Pattern MADE_FOR_A_FIELD =
            Pattern.compile(" +(private final \\S+ )?\\w+ = new \\w+(\\(\\)|\\[[^\\]]+\\]);");

    public static void main(String[] args) throws IOException {
        List<String> lines = withoutComments(Files.readAllLines(PROGRAM));
        words(lines);
        roomIsMadeOnce(lines);
        methodsAreShort(lines);
        classes();
        CHECK.end();
    }

    private static List<String> withoutComments(List<String> lines) {
        List<String> code = new ArrayList<>();
        for (String line : lines) {
            code.add(line.replaceFirst("//.*|/\\*\\*.*\\*/", ""));
        }
        return code;
    }

    private static void words(List<String> lines) {
        for (String word : RULED_OUT) {
            Pattern pattern = Pattern.compile(word);
            for (String line : lines) {
                CHECK.due(word + " stands in: " + line, !pattern.matcher(line).find());
            }
        }
        for (String line : lines) {
            CHECK.due("the signs are 1 to 127: " + line, line.chars().allMatch(sign -> sign > 0 && sign < 128));
        }
    }

    private static void roomIsMadeOnce(List<String> lines) {
        for (String line : lines) {
            boolean makes = line.matches(".*\\bnew\\b.*");
            CHECK.due("what is made is a field's: " + line, !makes || MADE_FOR_A_FIELD.matcher(line).matches());
        }
    }

    /** Methods begin with a line that has a list of parameters and "{", and end with "}" as far from the margin. */
    private static void methodsAreShort(List<String> lines) {
        Pattern start = Pattern.compile("( {4}| {8})(public|private) [^=;]*\\) \\{");
        for (int first = 0; first < lines.size(); first++) {
            Matcher matcher = start.matcher(lines.get(first));
            if (matcher.matches()) {
                int last = first;
                while (!lines.get(last).equals(matcher.group(1) + "}")) {
                    last++;
                }
                CHECK.due("lines of: " + lines.get(first).trim(), last - first + 1 <= MOST_LINES);
            }
        }
    }

    private static void classes() {
        Class<?>[] inside = HalfFaces.class.getDeclaredClasses();
        CHECK.due("classes in the file", inside.length + 1 <= MOST_CLASSES);
        TreeSet<String> face = new TreeSet<>();
        for (Method method : HalfFaces.class.getDeclaredMethods()) {
            if (Modifier.isPublic(method.getModifiers())) {
                face.add(method.getName());
            }
        }
        ofClass(HalfFaces.class, face);
        for (Class<?> one : inside) {
            int modifiers = one.getModifiers();
            CHECK.due(one + " is static", Modifier.isStatic(modifiers));
            CHECK.due(one + " is not shown", !Modifier.isPublic(modifiers) && !Modifier.isProtected(modifiers));
            CHECK.due(one + " has no class inside", one.getDeclaredClasses().length, 0);
            ofClass(one, face);
        }
    }

    private static void ofClass(Class<?> one, Set<String> face) {
        int fields = 0;
        for (Field field : one.getDeclaredFields()) {
            if (Modifier.isStatic(field.getModifiers())) {
                CHECK.due(field + " is final", Modifier.isFinal(field.getModifiers()));
                CHECK.due(field + " is a constant", STATIC_TYPES.contains(field.getType().getSimpleName()));
            } else {
                fields++;
            }
        }
        CHECK.due("fields of " + one, fields <= MOST_FIELDS);
        for (Method method : one.getDeclaredMethods()) {
            boolean isPrivate = Modifier.isPrivate(method.getModifiers());
            CHECK.due("parameters of " + method, method.getParameterCount() <= MOST_PARAMETERS);
            CHECK.due(method + " bears the name of a public one", !isPrivate || !face.contains(method.getName()));
        }
    }
}

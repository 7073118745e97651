import java.io.IOException;
import java.lang.reflect.Field;
import java.lang.reflect.Method;
import java.lang.reflect.Modifier;
import java.nio.file.Files;
import java.nio.file.Path;
import java.util.regex.Matcher;
import java.util.regex.Pattern;

/** README.md tells the answers that are due and leaves out no call and no constant; runs in the project's folder. */
public final class ReadmeTest {
    private static final Check CHECK = new Check();
    private static final Pattern CALL = Pattern.compile("(?m)^x\\.(\\w+)\\((.*)\\); +// ([A-Z_]+|-?[0-9]+)(?:,.*)?$");
    private static final Pattern LINE = Pattern.compile("(?m)^x\\..*$");

    public static void main(String[] args) throws ReflectiveOperationException, IOException {
        String page = Files.readString(Path.of("README.md"));
        example(page);
        everyCallIsNamed(page);
        everyConstantIsNamed(page);
        CHECK.end();
    }

    private static void example(String page) throws ReflectiveOperationException {
        HalfFaces x = new HalfFaces();
        Matcher call = CALL.matcher(page);
        int calls = 0;
        while (call.find()) {
            String answer = call.group(3);
            boolean isNumber = answer.matches("-?[0-9]+");
            int due = isNumber ? Integer.parseInt(answer) : HalfFaces.class.getField(answer).getInt(null);
            CHECK.due(call.group(), answer(x, call.group(1), call.group(2)), due);
            calls++;
        }
        CHECK.due("the example has calls", calls > 0);
        CHECK.due("calls of the example with an answer", calls, LINE.matcher(page).results().count());
    }

    private static int answer(HalfFaces x, String name, String list) throws ReflectiveOperationException {
        Method method = method(name);
        Class<?>[] types = method.getParameterTypes();
        String[] words = list.isEmpty() ? new String[0] : list.split(", ");
        Object[] arguments = new Object[types.length];
        for (int i = 0; i < types.length; i++) {
            arguments[i] = argument(types[i], words[i]);
        }
        return (int) method.invoke(x, arguments);
    }

    private static Object argument(Class<?> type, String word) {
        if (type == boolean.class) {
            return Boolean.valueOf(word);
        }
        return type == char.class ? (Object) word.charAt(1) : (Object) Integer.valueOf(word);
    }

    private static Method method(String name) {
        for (Method method : HalfFaces.class.getDeclaredMethods()) {
            if (method.getName().equals(name) && Modifier.isPublic(method.getModifiers())) {
                return method;
            }
        }
        throw new IllegalStateException("README.md calls " + name + ", which the class does not have");
    }

    private static void everyCallIsNamed(String page) {
        for (Method method : HalfFaces.class.getDeclaredMethods()) {
            if (Modifier.isPublic(method.getModifiers())) {
                CHECK.due("the page tells " + method.getName(), page.contains("\n| `" + method.getName() + "("));
            }
        }
    }

    private static void everyConstantIsNamed(String page) throws IllegalAccessException {
        for (Field field : HalfFaces.class.getFields()) {
            String row = "\n| `" + field.getName() + "` | " + field.getInt(null) + " | ";
            CHECK.due("the page tells " + field.getName(), page.contains(row));
        }
    }
}

import java.lang.reflect.Constructor;
import java.lang.reflect.Field;
import java.lang.reflect.Method;
import java.lang.reflect.Modifier;
import java.util.ArrayList;
import java.util.Arrays;
import java.util.List;
import java.util.TreeSet;

/** The class shows the document's constants, constructor and methods, and nothing else. */
public final class PublicFaceTest {
    private static final Check CHECK = new Check();

    public static void main(String[] args) {
        Class<?> face = HalfFaces.class;
        CHECK.due("the class is public and final", face.getModifiers() == (Modifier.PUBLIC | Modifier.FINAL));
        constants();
        constructors(face);
        methods(face);
        CHECK.end();
    }

    private static void constants() {
        CHECK.due("UNKNOWN", HalfFaces.UNKNOWN, -1000001);
        CHECK.due("BAD_VALUE", HalfFaces.BAD_VALUE, -1000002);
        CHECK.due("FULL", HalfFaces.FULL, -1000003);
        CHECK.due("NOT_POSSIBLE", HalfFaces.NOT_POSSIBLE, -1000004);
        CHECK.due("NONE", HalfFaces.NONE, -1000005);
        List<String> shown = new ArrayList<>();
        for (Field field : HalfFaces.class.getDeclaredFields()) {
            boolean isStatic = Modifier.isStatic(field.getModifiers());
            CHECK.due("a static field is final: " + field, !isStatic || Modifier.isFinal(field.getModifiers()));
            if (!Modifier.isPrivate(field.getModifiers())) {
                shown.add(field.getName());
            }
        }
        CHECK.due("the shown fields are the constants: " + shown,
                new TreeSet<>(shown).equals(new TreeSet<>(
                        Arrays.asList("UNKNOWN", "BAD_VALUE", "FULL", "NOT_POSSIBLE", "NONE"))));
    }

    private static void constructors(Class<?> face) {
        Constructor<?>[] all = face.getDeclaredConstructors();
        CHECK.due("constructors", all.length, 1);
        CHECK.due("the constructor is public", Modifier.isPublic(all[0].getModifiers()));
        CHECK.due("parameters of the constructor", all[0].getParameterCount(), 0);
    }

    private static void methods(Class<?> face) {
        TreeSet<String> due = new TreeSet<>(Arrays.asList(
                "sit(int,int,int)", "set(int,int)", "paint(boolean,int,int,int,int)", "correct(boolean,int,int)",
                "copy(boolean,int,int)", "hour()", "readRows()", "pair(int,int)", "pairBest()", "show()",
                "type(char)", "clearText()", "undo()", "keep()", "restore()", "sitter(int,int)",
                "tone(boolean,int,int,int)", "painter(boolean,int,int)", "face(int,int,int)", "bestFor(int)",
                "ranked(int,int)", "count(int)"));
        TreeSet<String> shown = new TreeSet<>();
        for (Method method : face.getDeclaredMethods()) {
            if (!Modifier.isPrivate(method.getModifiers())) {
                shown.add(signature(method));
                CHECK.due(method + " is public and answers int",
                        method.getModifiers() == Modifier.PUBLIC && method.getReturnType() == int.class);
            }
        }
        CHECK.due("the shown methods: " + shown, shown.equals(due));
    }

    private static String signature(Method method) {
        StringBuilder text = new StringBuilder(method.getName()).append('(');
        for (Class<?> type : method.getParameterTypes()) {
            if (text.charAt(text.length() - 1) != '(') {
                text.append(',');
            }
            text.append(type.getName());
        }
        return text.append(')').toString();
    }
}

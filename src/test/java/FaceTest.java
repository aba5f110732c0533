import java.lang.reflect.Constructor;
import java.lang.reflect.Field;
import java.lang.reflect.Method;
import java.lang.reflect.Modifier;
import java.util.Arrays;
import java.util.Set;
import java.util.TreeSet;

/** The public face is the document's, no more and no less. */
public final class FaceTest {
    private static final String[] METHODS = {
        "boolean time(int)", "boolean shift(int, int, int)", "boolean holiday(int, int)",
        "boolean mask(int, int, int, int)", "boolean nth(int, int, int)", "boolean set(int, int, int)",
        "boolean except(int, int)", "boolean after(int, int, boolean)", "boolean isDue(int, int)",
        "int due(int, int)", "int local(int, int)", "int wake(int)", "boolean up(int, boolean)",
        "boolean desk(int, boolean)", "int letters()", "int deliver(int)", "boolean lose(int)",
        "boolean twin(int)", "int letter(int, int)", "int register(int, int, int)",
        "int effects(int)", "int effect(int, int, int)"};

    private static final Check check = new Check();

    public static void main(String[] args) {
        int modifiers = TickKeeper.class.getModifiers();
        check.yes("public", Modifier.isPublic(modifiers));
        check.yes("final", Modifier.isFinal(modifiers));
        check.is("NONE", TickKeeper.NONE, -1);
        checkMethods();
        checkFields();
        Constructor<?>[] constructors = TickKeeper.class.getDeclaredConstructors();
        check.is("constructors", constructors.length, 1);
        check.yes("public constructor", Modifier.isPublic(constructors[0].getModifiers()));
        check.is("constructor's parameters", constructors[0].getParameterCount(), 0);
        for (Class<?> inside : TickKeeper.class.getDeclaredClasses()) {
            check.yes("static " + inside, Modifier.isStatic(inside.getModifiers()));
            check.no("public " + inside, Modifier.isPublic(inside.getModifiers()));
        }
        check.end();
    }

    private static void checkMethods() {
        Set<String> left = new TreeSet<>(Arrays.asList(METHODS));
        Set<String> names = new TreeSet<>();
        for (String method : METHODS) {
            names.add(method.substring(method.indexOf(' ') + 1, method.indexOf('(')));
        }
        for (Method method : TickKeeper.class.getDeclaredMethods()) {
            if (Modifier.isPrivate(method.getModifiers())) {
                check.no("a private " + method.getName(), names.contains(method.getName()));
            } else {
                check.yes("public " + method, Modifier.isPublic(method.getModifiers()));
                check.yes("in the document: " + method, left.remove(nameOf(method)));
            }
        }
        check.is("missing " + left, left.size(), 0);
    }

    private static String nameOf(Method method) {
        StringBuilder parameters = new StringBuilder();
        for (Class<?> type : method.getParameterTypes()) {
            parameters.append(parameters.length() == 0 ? "" : ", ").append(type.getName());
        }
        return method.getReturnType().getName() + " " + method.getName() + "(" + parameters + ")";
    }

    private static void checkFields() {
        for (Field field : TickKeeper.class.getDeclaredFields()) {
            boolean isNone = field.getName().equals("NONE");
            check.is("private " + field, Modifier.isPrivate(field.getModifiers()) ? 1 : 0, isNone ? 0 : 1);
            check.yes("final or of an object: " + field,
                !Modifier.isStatic(field.getModifiers()) || Modifier.isFinal(field.getModifiers()));
        }
    }
}

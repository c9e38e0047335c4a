import java.lang.reflect.Constructor;
import java.lang.reflect.Field;
import java.lang.reflect.Method;
import java.lang.reflect.Modifier;
import java.util.Arrays;
import java.util.TreeSet;

/** The public face is the document's, and nothing beside it can be reached. */
public final class FaceTest {
    private static final String[] FACE = {
        "boolean device(int, int)",
        "int channel(int, int, int, int, int) throws IllegalArgumentException, IllegalStateException",
        "boolean alarm(int, int, int, int, int)", "boolean setPoint(int, int, int, int)", "boolean seal(int)",
        "boolean move(int, int)", "boolean patient(int, int)", "boolean confirm(int)",
        "boolean sample(int, int, int)", "int tick(int) throws IllegalArgumentException",
        "boolean carry(int, boolean)", "boolean drop(int)",
        "int bind(int, int) throws IllegalArgumentException, IllegalStateException",
        "int shown(int, int) throws IndexOutOfBoundsException, NoSuchElementException",
        "boolean acknowledge(int, int)", "boolean inhibit(int, int, int)", "boolean lease(int, int)",
        "int order(int, int, int, int) throws IllegalArgumentException, IllegalStateException",
        "boolean local(int, int, boolean)", "boolean restart(int)",
        "int look(int, int) throws IndexOutOfBoundsException",
        "int message(int, int) throws NoSuchElementException, IndexOutOfBoundsException", "int count(int)",
    };

    public static void main(String[] args) {
        Check check = new Check();
        check.same("NONE", BedsideNet.NONE, -1);
        check.yes("final", Modifier.isFinal(BedsideNet.class.getModifiers()));
        TreeSet<String> found = new TreeSet<>();
        for (Method method : BedsideNet.class.getDeclaredMethods()) {
            if (Modifier.isPrivate(method.getModifiers())) {
                continue;
            }
            check.yes(method + " is public", Modifier.isPublic(method.getModifiers()));
            found.add(method.getReturnType() + " " + method.getName() + "(" + names(method.getParameterTypes()) + ")"
                    + (method.getExceptionTypes().length == 0 ? "" : " throws " + names(method.getExceptionTypes())));
        }
        if (!found.equals(new TreeSet<>(Arrays.asList(FACE)))) {
            check.tell("the methods are " + found);
        }
        for (Field field : BedsideNet.class.getDeclaredFields()) {
            check.yes(field + " is private", field.getName().equals("NONE") || Modifier.isPrivate(field.getModifiers()));
        }
        for (Constructor<?> constructor : BedsideNet.class.getDeclaredConstructors()) {
            check.yes(constructor + " is public", Modifier.isPublic(constructor.getModifiers()));
            check.same("parameters of " + constructor, constructor.getParameterCount(), 0);
        }
        check.end();
    }

    private static String names(Class<?>[] types) {
        return String.join(", ", Arrays.stream(types).map(Class::getSimpleName).toList());
    }
}

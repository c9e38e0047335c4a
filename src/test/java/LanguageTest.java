import java.io.IOException;
import java.lang.reflect.Field;
import java.lang.reflect.Method;
import java.lang.reflect.Modifier;
import java.nio.file.Files;
import java.nio.file.Path;
import java.util.ArrayList;
import java.util.IdentityHashMap;
import java.util.List;
import java.util.Map;
import java.util.Set;
import java.util.TreeSet;

/** The rules of LANGUAGE.md that can be looked up in the file or the class. */
public final class LanguageTest {
    private static final Check CHECK = new Check();
    private static final Set<Class<?>> CONSTANTS = Set.of(int.class, long.class, boolean.class, char.class, String.class);
    private static final String[] NOT_WRITTEN = {
        "->", "::", "finally", "synchronized", "assert ", "package ", "static {", "getMessage", "Math.addExact", "float",
        "double", "hashCode", "toString", "Random", "System.nanoTime", "System.currentTimeMillis", "Thread",
    };

    public static void main(String[] args) throws IOException {
        List<String> lines = Files.readAllLines(Path.of("src/main/java/BedsideNet.java"));
        List<Class<?>> classes = new ArrayList<>(List.of(BedsideNet.class.getDeclaredClasses()));
        for (Class<?> inside : classes) {
            CHECK.yes(inside + " is static", Modifier.isStatic(inside.getModifiers()));
            CHECK.no(inside + " is public", Modifier.isPublic(inside.getModifiers()));
        }
        classes.add(BedsideNet.class);
        CHECK.yes("at most twelve classes", classes.size() <= 12);
        classes.forEach(LanguageTest::members);
        namesOfPrivateMethods();
        words(lines);
        lengths(lines);
        room();
        CHECK.end();
    }

    /** Rules 5 and 11. */
    private static void members(Class<?> one) {
        int fields = 0;
        for (Field field : one.getDeclaredFields()) {
            boolean isStatic = Modifier.isStatic(field.getModifiers());
            fields += isStatic ? 0 : 1;
            if (isStatic) {
                CHECK.yes(field + " is final", Modifier.isFinal(field.getModifiers()));
                CHECK.yes(field + " is a constant", CONSTANTS.contains(field.getType()));
            }
        }
        CHECK.yes(one + " has at most twenty fields", fields <= 20);
        for (Method method : one.getDeclaredMethods()) {
            CHECK.yes(method + " takes at most seven", method.getParameterCount() <= 7);
        }
    }

    /** Rule 1: "No private method bears the name of a public one." */
    private static void namesOfPrivateMethods() {
        Set<String> open = new TreeSet<>();
        for (Method method : BedsideNet.class.getMethods()) {
            open.add(method.getName());
        }
        for (Method method : BedsideNet.class.getDeclaredMethods()) {
            if (Modifier.isPrivate(method.getModifiers())) {
                CHECK.no(method + " bears a public name", open.contains(method.getName()));
            }
        }
    }

    /** Rules 2 to 6 and 13. */
    private static void words(List<String> lines) {
        for (String line : lines) {
            String code = line.replaceFirst("//.*", "");
            if (code.trim().startsWith("/**") || code.trim().startsWith("*")) {
                continue;
            }
            for (String word : NOT_WRITTEN) {
                CHECK.no("'" + word + "' in: " + line, code.contains(word));
            }
            // Objects are made with the object that holds them; calls make exceptions alone.
            boolean makes = code.contains("new ");
            CHECK.yes("made by a call: " + line, !makes
                    || code.matches(" +(throw new .*|private final .* = new .*|\\w+\\[[ik]] = new \\w+\\(\\);)"));
            if (code.startsWith("import ")) {
                CHECK.yes(line, code.equals("import java.util.NoSuchElementException;"));
            }
        }
    }

    /** Rule 11: "Methods stay short (some sixty lines)". */
    private static void lengths(List<String> lines) {
        int begun = -1;
        for (int i = 0; i < lines.size(); i++) {
            String line = lines.get(i);
            if (line.matches(" {4}( {4})?(public|private)[^=;]*\\(.*")) {
                begun = i;
            }
            if (begun >= 0 && line.matches(" {4}( {4})?}")) {
                CHECK.yes("at most sixty lines from line " + (begun + 1), i - begun <= 60);
                begun = -1;
            }
        }
    }

    /** One object, with all that it holds, is far within the room of a run, and calls make it no larger. */
    private static void room() {
        CHECK.yes("a new object is small", size(new BedsideNet()) < 1000);
        Script script = Ward.busy();
        CHECK.same("a busy one has no more", size(script.object()), size(new BedsideNet()));
        CHECK.same("a full one has no more", size(Ward.full().object()), size(new BedsideNet()));
    }

    private static int size(Object root) {
        Map<Object, Boolean> held = new IdentityHashMap<>();
        hold(root, held);
        return held.size();
    }

    private static void hold(Object object, Map<Object, Boolean> held) {
        if (object == null || held.put(object, true) != null) {
            return;
        }
        if (object instanceof Object[] array) {
            for (Object element : array) {
                hold(element, held);
            }
            return;
        }
        try {
            for (Field field : object.getClass().getDeclaredFields()) {
                boolean isPart = !Modifier.isStatic(field.getModifiers()) && !field.getType().isPrimitive();
                if (isPart) {
                    field.setAccessible(true);
                    hold(field.get(object), held);
                }
            }
        } catch (IllegalAccessException e) {
            CHECK.tell("can't look into " + object.getClass());
        }
    }
}

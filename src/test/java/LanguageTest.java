import java.io.IOException;
import java.lang.reflect.Array;
import java.lang.reflect.Field;
import java.lang.reflect.Modifier;
import java.nio.file.Path;
import java.util.ArrayDeque;
import java.util.Collections;
import java.util.Deque;
import java.util.HashSet;
import java.util.IdentityHashMap;
import java.util.List;
import java.util.Map;
import java.util.Set;

/** The rules of LANGUAGE.md that can be seen without understanding, by their numbers. */
public final class LanguageTest {
    private static final Set<Class<?>> CONSTANTS =
        Set.of(int.class, long.class, boolean.class, char.class, String.class);
    private static final Set<String> LIBRARY = Set.of(
        "Math.max", "Math.min", "Math.abs", "Math.floorDiv", "Math.floorMod", "Integer.compare", "Integer.bitCount",
        "System.arraycopy", "Arrays.copyOf", "Arrays.copyOfRange", "Arrays.fill");
    private static final List<String> FORBIDDEN = List.of(
        "throw", "try", "catch", "synchronized", "assert", "protected", "package", "import", "native", "volatile",
        "java", "Object", "equals", "hashCode", "toString");
    private static final int DEEPEST = 8;
    private static final Check check = new Check("LanguageTest");

    public static void main(String[] args) throws IOException, IllegalAccessException {
        Source source = new Source(Path.of("src/main/java/DeedBench.java"));
        names(source);
        classesInside();
        library(source);
        staticFields();
        forbiddenWords(source);
        recursion(source);
        sizes(source);
        nothingMade(source);
        room();
        check.end();
    }

    private static void names(Source source) {
        Set<String> names = new HashSet<>();
        for (Source.Part method : source.methods()) {
            check.yes("1: one method alone is named " + method.name(), names.add(method.name()));
        }
        long open = source.methods().stream().filter(method -> method.words().contains("public")).count();
        check.same("1: public methods in the source", open, 22);
    }

    private static void classesInside() {
        Class<?>[] inside = DeedBench.class.getDeclaredClasses();
        check.same("2: no local or anonymous class", DeedBench.class.getNestMembers().length, inside.length + 1);
        for (Class<?> type : inside) {
            int words = type.getModifiers();
            check.yes("2: " + type.getName() + " is static", Modifier.isStatic(words));
            check.no("1: " + type.getName() + " is open", Modifier.isPublic(words) || Modifier.isProtected(words));
        }
    }

    private static void library(Source source) {
        Set<String> own = new HashSet<>(Set.of("Math", "Integer", "System", "Arrays"));
        for (Class<?> type : DeedBench.class.getNestMembers()) {
            own.add(type.getSimpleName());
        }
        for (String type : source.all("\\b[A-Z]\\w*[a-z]\\w*")) {
            check.yes("4: " + type + " may be used", own.contains(type));
        }
        for (String used : source.all("\\b(Math|Integer|System|Arrays)\\.\\w+")) {
            check.yes("4: " + used + " may be used", LIBRARY.contains(used));
        }
    }

    private static void staticFields() {
        for (Class<?> type : DeedBench.class.getNestMembers()) {
            for (Field field : type.getDeclaredFields()) {
                boolean constant = Modifier.isFinal(field.getModifiers()) && CONSTANTS.contains(field.getType());
                check.yes("5: " + type.getName() + "." + field.getName() + " is a constant, if static",
                    constant || !Modifier.isStatic(field.getModifiers()));
            }
        }
    }

    private static void forbiddenWords(Source source) {
        check.yes("5: no static block", source.all("static\\s*\\{").isEmpty());
        for (String word : FORBIDDEN) {
            check.yes("6: no '" + word + "'", source.all("\\b" + word + "\\b").isEmpty());
        }
        check.no("2: a lambda", source.code.contains("->"));
        check.no("2: a method reference", source.code.contains("::"));
        check.no("10: a text", source.code.contains("\""));
    }

    private static void recursion(Source source) {
        Map<String, Set<String>> callees = source.callees();
        for (Source.Part method : source.methods()) {
            boolean callsItself = callees.get(method.name()).remove(method.name());
            check.yes("8: " + method.name() + " may call itself",
                !callsItself || method.words().equals("private static "));
        }
        for (String name : callees.keySet()) {
            int deep = depth(callees, name, 0);
            check.yes("11: calls from " + name + " go " + deep + " deep", deep <= DEEPEST);
        }
    }

    /** How many calls stand open below a method, itself counted; methods that call one another never end. */
    private static int depth(Map<String, Set<String>> callees, String name, int above) {
        if (above > DEEPEST) {
            return 1;
        }
        return 1 + callees.get(name).stream().mapToInt(next -> depth(callees, next, above + 1)).max().orElse(0);
    }

    private static void sizes(Source source) {
        for (Source.Part part : source.parts) {
            check.yes("11: " + part.name() + " takes at most seven", part.parameters() <= 7);
            check.yes("11: " + part.name() + " has at most sixty lines", part.lines() <= 60);
        }
        Class<?>[] classes = DeedBench.class.getNestMembers();
        check.yes("11: at most twelve classes", classes.length <= 12);
        for (Class<?> type : classes) {
            long fields = List.of(type.getDeclaredFields()).stream()
                .filter(field -> !Modifier.isStatic(field.getModifiers())).count();
            check.yes("11: " + type.getName() + " has at most twenty fields", fields <= 20);
        }
    }

    private static void nothingMade(Source source) {
        for (Source.Part method : source.methods()) {
            check.no("12: " + method.name() + " makes something", method.body().matches("(?s).*\\bnew\\b.*"));
        }
    }

    /** All calls of one run live in one room, so that a bench must be small. */
    private static void room() throws IllegalAccessException {
        Set<Object> objects = Collections.newSetFromMap(new IdentityHashMap<>());
        Deque<Object> open = new ArrayDeque<>(List.of(new DeedBench()));
        int places = 0;
        while (!open.isEmpty()) {
            Object object = open.pop();
            if (objects.add(object)) {
                places += object.getClass().isArray() ? Array.getLength(object) : openFields(object, open);
            }
        }
        check.yes("12: a bench is " + objects.size() + " objects and arrays", objects.size() <= 50);
        check.yes("12: a bench is " + places + " fields and elements", places <= 1000);
    }

    private static int openFields(Object object, Deque<Object> open) throws IllegalAccessException {
        int found = 0;
        for (Field field : object.getClass().getDeclaredFields()) {
            if (!Modifier.isStatic(field.getModifiers())) {
                found++;
                field.setAccessible(true);
                if (!field.getType().isPrimitive()) {
                    open.push(field.get(object));
                }
            }
        }
        return found;
    }
}

import java.lang.reflect.InvocationTargetException;
import java.lang.reflect.Method;
import java.util.Arrays;
import java.util.HashMap;
import java.util.List;
import java.util.Map;
import java.util.Set;
import java.util.stream.Collectors;

/** One call with its numbers, for a DeedBench or for a PlainBench, which have the same methods. */
record Call(String name, int... args) {
    /** What no call can answer, so that an exception is always a wrong answer. */
    static final long THREW = Long.MIN_VALUE;

    private static final Set<String> MAKERS = Set.of("person", "formula", "seal", "deed", "feed");
    private static final Set<String> CHANGERS = Set.of("lived", "span", "mark", "words", "claim", "court");
    private static final Map<Class<?>, Map<String, Method>> METHODS = new HashMap<>();

    /** From 'mark(0, 3, MAX)', or from 'feed("abc")': such a text gets blanks behind it, up to twenty bytes. */
    static Call parse(String text) {
        int open = text.indexOf('(');
        String name = text.substring(0, open);
        String inside = text.substring(open + 1, text.length() - 1);
        if (inside.startsWith("\"")) {
            return new Call(name, fives(inside.substring(1, inside.length() - 1)));
        }
        int[] args = inside.isEmpty()
            ? new int[0]
            : Arrays.stream(inside.split(",\\s*")).mapToInt(Call::number).toArray();
        return new Call(name, args);
    }

    /** Several, a line or a ';' between them. */
    static List<Call> parseAll(String texts) {
        return Arrays.stream(rows(texts)).map(Call::parse).toList();
    }

    static String[] rows(String texts) {
        return texts.strip().split("\\s*[;\n]\\s*");
    }

    static int number(String text) {
        switch (text) {
            case "MIN": return Integer.MIN_VALUE;
            case "MAX": return Integer.MAX_VALUE;
            case "NONE": return -1;
            case "true": return 1;
            case "false": return 0;
            default: return text.startsWith("0x")
                ? Integer.parseUnsignedInt(text.substring(2), 16)
                : Integer.parseInt(text);
        }
    }

    private static int[] fives(String text) {
        int[] ints = new int[5];
        for (int i = 0; i < 20; i++) {
            ints[i / 4] = ints[i / 4] << 8 | (i < text.length() ? text.charAt(i) & 255 : ' ');
        }
        return ints;
    }

    /** Whether it only asks: then it changes nothing, whatever it answers. */
    boolean isQuestion() {
        return !MAKERS.contains(name) && !CHANGERS.contains(name);
    }

    boolean isRefusedBy(long answer) {
        return CHANGERS.contains(name) ? answer == 0 : answer == DeedBench.NONE;
    }

    /** The answer; a boolean counts 1 or 0. */
    long on(Object bench) {
        Method method = METHODS.computeIfAbsent(bench.getClass(), Call::methodsOf).get(name);
        try {
            Object[] boxed = Arrays.stream(args).boxed().toArray();
            Object answer = method.invoke(bench, boxed);
            return answer instanceof Boolean yes ? (yes ? 1 : 0) : (Integer) answer;
        } catch (InvocationTargetException thrown) {
            System.out.println(this + " threw " + thrown.getCause());
            return THREW;
        } catch (IllegalAccessException closed) {
            throw new IllegalStateException(this + " can't be called", closed);
        }
    }

    private static Map<String, Method> methodsOf(Class<?> type) {
        Map<String, Method> methods = new HashMap<>();
        for (Method m : type.getDeclaredMethods()) {
            methods.put(m.getName(), m);
        }
        return methods;
    }

    @Override
    public String toString() {
        return name + Arrays.stream(args).mapToObj(String::valueOf).collect(Collectors.joining(", ", "(", ")"));
    }
}

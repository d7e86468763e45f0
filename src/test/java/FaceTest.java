import java.lang.reflect.Constructor;
import java.lang.reflect.Field;
import java.lang.reflect.Method;
import java.lang.reflect.Modifier;
import java.io.IOException;
import java.nio.charset.StandardCharsets;
import java.nio.file.Files;
import java.nio.file.Path;
import java.util.List;
import java.util.Set;
import java.util.TreeSet;
import java.util.regex.Pattern;

/** The public face, and the rules of LANGUAGE.md that can be seen without understanding. */
public final class FaceTest {
    private static final List<String> FACE = List.of(
        "int person(int,int)", "boolean lived(int,int,int)", "int formula(int,int)", "int seal(int,int)",
        "boolean span(int)", "int deed(int,int,int)", "boolean mark(int,int,int)", "int agree(int)", "int forged()",
        "int weight(int)", "int year(int,int)", "int quarrel()", "int sure(int,int)", "int feed(int,int,int,int,int)",
        "boolean words(int,int)", "int model(int,int)", "boolean claim(int,int,int)", "int clash(int,int)",
        "boolean court(int,int)", "int otherwise(int)", "int look(int,int)", "int count(int)");
    private static final List<String> FORBIDDEN = List.of(
        "throw", "try", "catch", "synchronized", "assert", "protected", "package", "import", "native", "volatile",
        "java", "String", "Object", "\\w+Exact", "equals", "hashCode", "toString");
    private static final Check check = new Check("FaceTest");

    public static void main(String[] args) throws IOException {
        face();
        classesInside();
        source();
        check.end();
    }

    private static String describe(Method m) {
        StringBuilder text = new StringBuilder(m.getReturnType().getName() + " " + m.getName() + "(");
        for (Class<?> type : m.getParameterTypes()) {
            text.append(text.charAt(text.length() - 1) == '(' ? "" : ",").append(type.getName());
        }
        return text.append(")").toString();
    }

    private static void face() {
        Class<?> face = DeedBench.class;
        check.yes("public", Modifier.isPublic(face.getModifiers()));
        check.yes("final", Modifier.isFinal(face.getModifiers()));
        check.same("NONE", DeedBench.NONE, -1);
        Constructor<?>[] constructors = face.getDeclaredConstructors();
        check.same("constructors", constructors.length, 1);
        check.same("its parameters", constructors[0].getParameterCount(), 0);
        check.yes("it is public", Modifier.isPublic(constructors[0].getModifiers()));
        Set<String> open = new TreeSet<>();
        for (Method m : face.getDeclaredMethods()) {
            if (!Modifier.isPrivate(m.getModifiers())) {
                open.add(describe(m));
                check.yes(m.getName() + " is public and not static",
                    Modifier.isPublic(m.getModifiers()) && !Modifier.isStatic(m.getModifiers()));
            }
        }
        for (String method : FACE) {
            check.yes(method, open.remove(method));
        }
        check.yes("no others: " + open, open.isEmpty());
        for (Field f : face.getDeclaredFields()) {
            check.yes(f.getName() + " is private", Modifier.isPrivate(f.getModifiers()) || f.getName().equals("NONE"));
            check.yes(f.getName() + " is final, if static",
                Modifier.isFinal(f.getModifiers()) || !Modifier.isStatic(f.getModifiers()));
        }
    }

    private static void classesInside() {
        Set<String> names = new TreeSet<>();
        for (String method : FACE) {
            names.add(method.substring(method.indexOf(' ') + 1, method.indexOf('(')));
        }
        check.yes("at most twelve classes", DeedBench.class.getDeclaredClasses().length < 12);
        for (Class<?> inside : DeedBench.class.getDeclaredClasses()) {
            check.yes(inside.getName() + " is static", Modifier.isStatic(inside.getModifiers()));
            check.no(inside.getName() + " is public", Modifier.isPublic(inside.getModifiers()));
            check.yes(inside.getName() + " has at most twenty fields", inside.getDeclaredFields().length <= 20);
            for (Method m : inside.getDeclaredMethods()) {
                check.no(m.getName() + " bears a public one's name", names.contains(m.getName()));
                check.yes(m.getName() + " takes at most seven", m.getParameterCount() <= 7);
            }
        }
        for (Method m : DeedBench.class.getDeclaredMethods()) {
            boolean isPrivate = Modifier.isPrivate(m.getModifiers());
            check.no(m.getName() + " bears a public one's name", isPrivate && names.contains(m.getName()));
        }
    }

    private static void source() throws IOException {
        String text = Files.readString(Path.of("src/main/java/DeedBench.java"), StandardCharsets.ISO_8859_1);
        String code = text.replaceAll("(?s)/\\*.*?\\*/", "").replaceAll("//[^\n]*", "");
        for (String word : FORBIDDEN) {
            check.no("'" + word + "' in the source", Pattern.compile("\\b" + word + "\\b").matcher(code).find());
        }
        check.no("a lambda", code.contains("->"));
        check.no("a method reference", code.contains("::"));
    }
}

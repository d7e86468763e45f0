import java.lang.reflect.Constructor;
import java.lang.reflect.Field;
import java.lang.reflect.Method;
import java.lang.reflect.Modifier;
import java.util.List;
import java.util.Set;
import java.util.TreeSet;

/** The public face as the document shows it, and nothing beside it. */
public final class FaceTest {
    private static final List<String> FACE = List.of(
        "int person(int,int)", "boolean lived(int,int,int)", "int formula(int,int)", "int seal(int,int)",
        "boolean span(int)", "int deed(int,int,int)", "boolean mark(int,int,int)", "int agree(int)", "int forged()",
        "int weight(int)", "int year(int,int)", "int quarrel()", "int sure(int,int)", "int feed(int,int,int,int,int)",
        "boolean words(int,int)", "int model(int,int)", "boolean claim(int,int,int)", "int clash(int,int)",
        "boolean court(int,int)", "int otherwise(int)", "int look(int,int)", "int count(int)");
    private static final Check check = new Check("FaceTest");

    public static void main(String[] args) {
        face();
        privateNames();
        check.end();
    }

    private static String describe(Method m) {
        StringBuilder text = new StringBuilder(m.getReturnType().getName() + " " + m.getName() + "(");
        for (Class<?> type : m.getParameterTypes()) {
            text.append(text.charAt(text.length() - 1) == '(' ? "" : ",").append(type.getName());
        }
        return text.append(")").toString();
    }

    private static void face() {
        Class<?> face = DeedBench.class;
        check.yes("public", Modifier.isPublic(face.getModifiers()));
        check.yes("final", Modifier.isFinal(face.getModifiers()));
        check.same("NONE", DeedBench.NONE, -1);
        Constructor<?>[] constructors = face.getDeclaredConstructors();
        check.same("constructors", constructors.length, 1);
        check.same("its parameters", constructors[0].getParameterCount(), 0);
        check.yes("it is public", Modifier.isPublic(constructors[0].getModifiers()));
        Set<String> open = new TreeSet<>();
        for (Method m : face.getDeclaredMethods()) {
            if (!Modifier.isPrivate(m.getModifiers())) {
                open.add(describe(m));
                check.yes(m.getName() + " is public and not static",
                    Modifier.isPublic(m.getModifiers()) && !Modifier.isStatic(m.getModifiers()));
            }
        }
        for (String method : FACE) {
            check.yes(method, open.remove(method));
        }
        check.yes("no others: " + open, open.isEmpty());
        for (Field f : face.getDeclaredFields()) {
            check.yes(f.getName() + " is private", Modifier.isPrivate(f.getModifiers()) || f.getName().equals("NONE"));
            check.yes(f.getName() + " is final, if static",
                Modifier.isFinal(f.getModifiers()) || !Modifier.isStatic(f.getModifiers()));
        }
    }

    /** Of all methods of the face. */
    static Set<String> names() {
        Set<String> names = new TreeSet<>();
        for (String method : FACE) {
            names.add(method.substring(method.indexOf(' ') + 1, method.indexOf('(')));
        }
        return names;
    }

    private static void privateNames() {
        Set<String> names = names();
        for (Class<?> type : DeedBench.class.getNestMembers()) {
            for (Method m : type.getDeclaredMethods()) {
                boolean isOfTheFace = type == DeedBench.class && Modifier.isPublic(m.getModifiers());
                check.no(m.getName() + " bears a public one's name", !isOfTheFace && names.contains(m.getName()));
            }
        }
    }
}

import java.util.ArrayList;
import java.util.List;

/** Benches to try calls on, each as the calls that make it, what is on the tape last. */
final class Recipe {
    final String name;
    private final List<Call> told = new ArrayList<>();
    private final List<Call> fed = new ArrayList<>();

    private Recipe(String name) {
        this.name = name;
    }

    static List<Recipe> all() {
        return List.of(nothing(), fedAlone(), something(), full());
    }

    private static Recipe nothing() {
        return new Recipe("an empty bench");
    }

    private static Recipe fedAlone() {
        Recipe recipe = new Recipe("a bench with a tape alone");
        recipe.feed("abcdefgh");
        return recipe;
    }

    /** Some of everything: a quarrel, a forged deed, a clash, a court that judges otherwise, a model, sure years. */
    private static Recipe something() {
        Recipe recipe = new Recipe("a bench with something of everything");
        recipe.tell("""
            span(30); person(100, 150); person(120, 190); person(0, 3000); formula(110, 170); formula(90, 130)
            seal(100, 180); seal(0, 140); deed(100, 140, 5); deed(145, 200, 4); deed(105, 125, 3); deed(160, 195, 2)
            deed(90, 210, 6); mark(0, 0, 0); mark(0, 1, 0); mark(0, 3, 1); mark(1, 0, 1); mark(1, 4, 0); mark(1, 2, 0)
            mark(2, 0, 0); mark(2, 4, 3); mark(3, 3, 1); mark(4, 0, 1); mark(4, 3, 2); mark(2, 3, 2); mark(2, 1, 1)
            mark(0, 0, 2); mark(1, 0, 2)
            """);
        recipe.write(0, "abcdefghijkl");
        recipe.write(1, "xxcdefgyy");
        recipe.write(3, "ghij");
        recipe.tell("""
            claim(0, 0, 7); claim(1, 1, 6); claim(4, 2, 1023); claim(2, 1, 4); court(0, 1); court(1, 2); court(3, 1)
            """);
        recipe.feed("mnopqrst");
        return recipe;
    }

    /** No more of anything has room in it. */
    private static Recipe full() {
        Recipe recipe = new Recipe("a full bench");
        recipe.tell("span(200)");
        for (int i = 0; i < 20; i++) {
            recipe.tell("person(" + (i * 20) + ", " + (i * 20 + 900) + ")");
        }
        for (int i = 0; i < 10; i++) {
            recipe.tell("formula(" + (i * 10) + ", " + (1000 - i) + ")");
        }
        for (int i = 0; i < 8; i++) {
            recipe.tell("seal(" + i + ", " + (1000 + i) + ")");
        }
        for (int d = 0; d < 12; d++) {
            recipe.tell("deed(" + (d * 75) + ", " + (d * 75 + d * 29 % 250) + ", " + (99 - d * 7 % 5) + ")");
        }
        for (int d = 0; d < 12; d++) {
            recipe.mark(d, new int[] {0, 0, 1, 2, 3, 3, 4, 4},
                new int[] {d, d + 8, d % 10, d % 8, d % 8, (d + 3) % 8, (d + 1) % 12, (d + 10) % 12});
            recipe.write(d, "abcdefghijklmnopqrstuvwxyz".substring(d / 2, d / 2 + 20));
            recipe.tell(String.format("claim(%d, %d, %d); court(%d, %d)", d, d % 4, 1023 >> d % 3, d, 1 + d % 2));
        }
        recipe.feed("uvwxyz");
        recipe.feed("abcdef");
        return recipe;
    }

    private void tell(String calls) {
        told.addAll(Call.parseAll(calls));
    }

    private void mark(int d, int[] kinds, int[] which) {
        for (int i = 0; i < kinds.length; i++) {
            told.add(new Call("mark", d, kinds[i], which[i]));
        }
    }

    private void write(int d, String letters) {
        told.add(Call.parse("feed(\"" + letters + "\")"));
        told.add(new Call("words", d, letters.length()));
    }

    private void feed(String bytes) {
        fed.add(Call.parse("feed(\"" + bytes + "\")"));
    }

    /** Makes the calls on a new bench; every one of them must be taken. */
    void fill(Object bench, boolean withTape) {
        fill(bench, told);
        if (withTape) {
            fill(bench, fed);
        }
    }

    private void fill(Object bench, List<Call> calls) {
        for (Call call : calls) {
            if (call.isRefusedBy(call.on(bench))) {
                throw new IllegalStateException(name + ": " + call + " is refused");
            }
        }
    }

    /** The calls that make it, in their order. */
    List<Call> steps() {
        List<Call> steps = new ArrayList<>(told);
        steps.addAll(fed);
        return steps;
    }

    int calls() {
        return told.size() + fed.size();
    }
}

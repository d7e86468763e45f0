import java.util.ArrayList;
import java.util.List;

/**
 * 'All memory is the bench's own': benches that are used side by side answer as each is due to
 * answer alone. What is due comes from PlainBench, so that it is right as well as undisturbed.
 */
public final class OwnMemoryTest {
    private static final Check check = new Check("OwnMemoryTest");

    /** All calls on one bench: the first ones fill it, the others ask and tell more. */
    private record Life(String name, List<Call> calls, int filling, long[] due) {
        static Life of(Recipe recipe, List<Call> row) {
            List<Call> calls = new ArrayList<>(recipe.steps());
            calls.addAll(row);
            return new Life(recipe.name, calls, recipe.calls(), Later.answers(new PlainBench(), calls));
        }

        void live(String place, DeedBench bench, int from, int to) {
            for (int i = from; i < Math.min(to, calls.size()) && check.isClean(); i++) {
                check.same(place + ": " + calls.get(i), calls.get(i).on(bench), due[i]);
            }
        }
    }

    public static void main(String[] args) {
        for (List<Call> row : Later.rows()) {
            List<Life> lives = Recipe.all().stream().map(recipe -> Life.of(recipe, row)).toList();
            for (Life one : lives) {
                for (Life other : lives) {
                    inTurn(one, other);
                    leftForAnother(one, other);
                }
            }
        }
        check.end();
    }

    private static void inTurn(Life one, Life other) {
        DeedBench first = new DeedBench();
        DeedBench second = new DeedBench();
        for (int i = 0; i < Math.max(one.calls.size(), other.calls.size()); i++) {
            one.live(one.name + " in turn with " + other.name, first, i, i + 1);
            other.live(other.name + " in turn behind " + one.name, second, i, i + 1);
        }
    }

    /** The bench that is left has judged already, so that it may keep what it found. */
    private static void leftForAnother(Life one, Life other) {
        DeedBench first = new DeedBench();
        one.live(one.name, first, 0, one.filling);
        first.forged();
        other.live(other.name + " beside " + one.name, new DeedBench(), 0, other.calls.size());
        one.live(one.name + ", left for " + other.name, first, one.filling, one.calls.size());
    }
}

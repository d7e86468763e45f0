import java.util.ArrayList;
import java.util.Arrays;
import java.util.List;
import java.util.Map;
import java.util.TreeMap;

/**
 * Every call with numbers at every edge and beyond, on benches from empty to full. The answer
 * must be that of PlainBench; and behind a question or a refused call, every later answer must
 * be as if it had not been made, but for a tape that words empties where a byte is no letter.
 */
public final class EveryNumberTest {
    private static final int LEAST = Integer.MIN_VALUE;
    private static final int GREATEST = Integer.MAX_VALUE;
    private static final int[] YEARS = {LEAST, -1, 0, 7, 3000, 3001, GREATEST};
    private static final int[] PEOPLE = {LEAST, -1, 0, 2, 3, 19, 20, GREATEST};
    private static final int[] DEEDS = {LEAST, -1, 0, 4, 5, 11, 12, GREATEST};
    private static final int[] WHICH = {LEAST, -1, 0, 1, 2, 3, 4, 5, 7, 8, 9, 10, 11, 12, 19, 20, 31, 32, GREATEST};
    private static final int[] SETS = {LEAST, -1, 0, 1, 31, 32, 2048, 4095, 4096, 8191, GREATEST};
    private static final int[] WEIGHTS = {LEAST, -1, 0, 1, 99, 100, GREATEST};
    private static final int[] SPANS = {LEAST, -1, 0, 200, 201, GREATEST};
    private static final int[] LETTERS = {LEAST, -1, 0, 1, 4, 6, 7, 8, 9, 20, 21, 40, 41, GREATEST};
    private static final int[] BYTES = {LEAST, GREATEST};
    private static final int[] HOUSES = {LEAST, -1, 0, 3, 4, GREATEST};
    private static final int[] PARCELS = {LEAST, -1, 0, 1023, 1024, GREATEST};
    private static final int[] PLACES = {LEAST, -1, 0, 1, 2, 3, 4, 11, 12, 53, 54, GREATEST};
    private static final int[] WHATS = {LEAST, -1, 0, 1, 2, 3, 4, 5, 6, 7, 8, 9, 10, GREATEST};
    private static final Check check = new Check("EveryNumberTest");

    private final Recipe recipe;
    private final List<List<Call>> later = Later.rows();
    private final List<long[]> dueWithTape;
    private final List<long[]> dueWithout;

    private EveryNumberTest(Recipe recipe) {
        this.recipe = recipe;
        dueWithTape = laterAnswers(true);
        dueWithout = laterAnswers(false);
    }

    public static void main(String[] args) {
        for (Recipe recipe : Recipe.all()) {
            EveryNumberTest test = new EveryNumberTest(recipe);
            for (Call call : calls()) {
                // A broken bench would answer wrongly a million times: the first call tells enough.
                if (check.isClean()) {
                    test.make(call);
                }
            }
        }
        check.end();
    }

    private static List<Call> calls() {
        Map<String, int[][]> numbers = new TreeMap<>(Map.of(
            "lived", new int[][] {PEOPLE, YEARS, YEARS}, "span", new int[][] {SPANS},
            "deed", new int[][] {YEARS, YEARS, WEIGHTS}, "mark", new int[][] {DEEDS, WHATS, WHICH},
            "feed", new int[][] {BYTES, BYTES, BYTES, BYTES, BYTES}, "words", new int[][] {DEEDS, LETTERS},
            "claim", new int[][] {DEEDS, HOUSES, PARCELS}, "court", new int[][] {DEEDS, WHATS}));
        for (String name : List.of("person", "formula", "seal")) {
            numbers.put(name, new int[][] {YEARS, YEARS});
        }
        for (String name : List.of("forged", "quarrel")) {
            numbers.put(name, new int[][] {});
        }
        for (String name : List.of("agree", "weight")) {
            numbers.put(name, new int[][] {SETS});
        }
        for (String name : List.of("year", "model", "look")) {
            numbers.put(name, new int[][] {DEEDS, WHATS});
        }
        numbers.put("sure", new int[][] {PEOPLE, WHATS});
        numbers.put("clash", new int[][] {PLACES, WHATS});
        numbers.put("otherwise", new int[][] {PLACES});
        numbers.put("count", new int[][] {WHATS});
        List<Call> calls = new ArrayList<>();
        numbers.forEach((name, choices) -> addEach(calls, name, choices));
        return calls;
    }

    /** Every choice of a number for each place, with every one of the others. */
    private static void addEach(List<Call> calls, String name, int[][] choices) {
        int many = Arrays.stream(choices).mapToInt(choice -> choice.length).reduce(1, (a, b) -> a * b);
        for (int way = 0; way < many; way++) {
            int[] args = new int[choices.length];
            for (int i = 0, rest = way; i < args.length; i++) {
                args[i] = choices[i][rest % choices[i].length];
                rest /= choices[i].length;
            }
            calls.add(new Call(name, args));
        }
    }

    private DeedBench bench(boolean withTape) {
        DeedBench bench = new DeedBench();
        recipe.fill(bench, withTape);
        return bench;
    }

    private PlainBench plain(boolean withTape) {
        PlainBench plain = new PlainBench();
        recipe.fill(plain, withTape);
        return plain;
    }

    /** What is due behind a call that changes nothing, from PlainBench, so that it is right as well as unchanged. */
    private List<long[]> laterAnswers(boolean withTape) {
        return later.stream().map(row -> Later.answers(plain(withTape), row)).toList();
    }

    private void make(Call call) {
        String place = recipe.name + ": " + call;
        PlainBench plain = plain(true);
        int tape = plain.count(6);
        long due = call.on(plain);
        boolean keepsTape = plain.count(6) == tape;
        check.same(place, call.on(bench(true)), due);
        if (call.isQuestion() || call.isRefusedBy(due)) {
            leavesAll(place, call, keepsTape ? dueWithTape : dueWithout);
        }
    }

    private void leavesAll(String place, Call call, List<long[]> due) {
        for (int i = 0; i < later.size(); i++) {
            List<Call> row = later.get(i);
            if (recipe.calls() + 1 + row.size() > Runs.MOST_CALLS) {
                throw new IllegalStateException(place + " and what comes behind it are too many calls");
            }
            DeedBench bench = bench(true);
            call.on(bench);
            long[] answers = Later.answers(bench, row);
            int k = Arrays.mismatch(answers, due.get(i));
            if (k >= 0) {
                check.same(place + ", then " + row.get(k), answers[k], due.get(i)[k]);
            }
            check.same(place + ", all of row " + i, k, -1);
        }
    }
}

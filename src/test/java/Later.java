import java.util.ArrayList;
import java.util.List;

/**
 * What can be asked and told of a bench behind a call, in rows short enough that a full bench,
 * the call and a row are at most 512 calls. Two benches that answer all alike can't be told apart.
 */
final class Later {
    private Later() {
    }

    static List<List<Call>> rows() {
        return List.of(looks(), judgements(), models(), changes());
    }

    private static List<Call> looks() {
        List<Call> row = new ArrayList<>();
        addAll(row, "count", -1, 8);
        for (int d = -1; d <= 12; d++) {
            addAll(row, "look", d, -1, 10);
        }
        addAll(row, "otherwise", -1, 12);
        return row;
    }

    private static List<Call> judgements() {
        List<Call> row = new ArrayList<>();
        row.add(new Call("forged"));
        row.add(new Call("quarrel"));
        for (int d = 0; d <= 12; d++) {
            addAll(row, "year", d, 0, 1);
            row.add(new Call("weight", 1 << d));
            row.add(new Call("agree", 1 << d));
            row.add(new Call("agree", 4095 & ~(1 << d)));
            for (int other = d + 1; other <= 12; other++) {
                row.add(new Call("agree", 1 << d | 1 << other));
            }
        }
        for (int p = 0; p <= 20; p++) {
            addAll(row, "sure", p, 0, 1);
        }
        return row;
    }

    private static List<Call> models() {
        List<Call> row = new ArrayList<>();
        for (int d = 0; d <= 12; d++) {
            addAll(row, "model", d, 0, 3);
        }
        for (int i = 0; i <= 54; i++) {
            addAll(row, "clash", i, 0, 2);
        }
        return row;
    }

    /** What is taken next, and what comes of it. */
    private static List<Call> changes() {
        List<Call> row = new ArrayList<>(Call.parseAll("""
            words(0, 6); look(0, 5); count(6); model(0, 0); model(0, 1); model(0, 2); model(0, 3); model(1, 0)
            feed("cdefghijkl"); feed("zzzz"); feed("yyyy"); words(1, 10); count(6); model(1, 0); model(0, 1)
            person(7, 800); formula(6, 801); seal(5, 802); deed(4, 803, 9); count(0); count(1); count(2); count(3)
            """));
        for (int d = 0; d < 12; d++) {
            for (int kind = 0; kind < 5; kind++) {
                row.add(new Call("mark", d, kind, (d + 1) % 3));
            }
            row.add(new Call("look", d, 3));
        }
        row.addAll(Call.parseAll("lived(0, 0, 3000); span(60); forged(); quarrel(); count(4); count(5)"));
        for (int d = 0; d < 12; d++) {
            addAll(row, "year", d, 0, 1);
        }
        row.addAll(Call.parseAll("""
            claim(0, 3, 1023); claim(1, 2, 1023); court(0, 2); court(1, 1); count(7); otherwise(0); otherwise(1)
            """));
        for (int i = 0; i < 6; i++) {
            addAll(row, "clash", i, 0, 2);
        }
        return row;
    }

    private static void addAll(List<Call> row, String name, int first, int last) {
        for (int i = first; i <= last; i++) {
            row.add(new Call(name, i));
        }
    }

    private static void addAll(List<Call> row, String name, int d, int first, int last) {
        for (int i = first; i <= last; i++) {
            row.add(new Call(name, d, i));
        }
    }

    static long[] answers(Object bench, List<Call> row) {
        return row.stream().mapToLong(call -> call.on(bench)).toArray();
    }
}

import java.util.regex.Matcher;
import java.util.regex.Pattern;

/**
 * Runs of calls, each on a new bench, written as text: rows 'call = answer', a line or a ';'
 * between them. A row without an answer must be taken, whatever it answers; '20x call' makes
 * a call twenty times.
 */
final class Runs {
    /** The document promises nothing of later calls, so no test may rest on one. */
    static final int MOST_CALLS = 512;

    private static final Pattern ROW = Pattern.compile("(?:(\\d+)x )?(\\w+\\(.*\\))(?: = (\\S+))?");

    private final Check check;

    Runs(Check check) {
        this.check = check;
    }

    /** One sentence of the document, by the number of its promise, and the run that would show it broken. */
    void run(String sentence, String rows) {
        DeedBench bench = new DeedBench();
        int calls = 0;
        for (String row : Call.rows(rows)) {
            Matcher parts = ROW.matcher(row);
            if (!parts.matches()) {
                throw new IllegalArgumentException("no such row: " + row);
            }
            int times = parts.group(1) == null ? 1 : Integer.parseInt(parts.group(1));
            for (int i = 0; i < times; i++) {
                calls++;
                make(sentence + ": call " + calls + ", ", bench, Call.parse(parts.group(2)), parts.group(3));
            }
        }
        check.yes(sentence + ": at most 512 calls", calls <= MOST_CALLS);
    }

    private void make(String place, DeedBench bench, Call call, String due) {
        long answer = call.on(bench);
        if (due != null) {
            check.same(place + call, answer, Call.number(due));
        } else {
            check.no(place + call + " is refused", answer == Call.THREW || call.isRefusedBy(answer));
        }
    }
}

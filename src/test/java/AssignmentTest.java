/**
 * Promises 9, 10, 12 and 13 from the words of the document alone: few deeds in few years,
 * every way to give each deed a year is tried.
 */
public final class AssignmentTest {
    private static final int RUNS = 3000;
    private static final int DEEDS = 4;
    private static final int YEARS = 5;
    private static final Check check = new Check("AssignmentTest");

    private long state;
    private int w;
    private final int[] from = new int[DEEDS];
    private final int[] to = new int[DEEDS];
    private final int[] hands = new int[DEEDS];
    private final int[] named = new int[DEEDS];
    private final int[] least = new int[DEEDS];
    private final int[] greatest = new int[DEEDS];
    private final DeedBench x = new DeedBench();

    private AssignmentTest(int run) {
        state = run * 31L + 7;
    }

    public static void main(String[] args) {
        for (int run = 0; run < RUNS && check.isClean(); run++) {
            AssignmentTest test = new AssignmentTest(run);
            test.tell();
            test.compare("run " + run + ": ");
        }
        check.end();
    }

    private int draw(int below) {
        state = state * 6364136223846793005L + 1442695040888963407L;
        return (int) ((state >>> 33) % below);
    }

    private void tell() {
        w = draw(3);
        x.span(w);
        for (int d = 0; d < DEEDS; d++) {
            from[d] = draw(YEARS);
            to[d] = from[d] + draw(YEARS - from[d]);
            x.deed(from[d], to[d], 1);
        }
        for (int d = 0; d < DEEDS; d++) {
            hands[d] = draw(4);
            named[d] = draw(16) & draw(16) & ~(1 << d);
            for (int i = 0; i < DEEDS; i++) {
                if ((hands[d] >> i & 1) != 0) {
                    x.mark(d, 3, i);
                }
                if ((named[d] >> i & 1) != 0) {
                    x.mark(d, 4, i);
                }
            }
        }
    }

    private boolean fits(int set, int[] year) {
        for (int a = 0; a < DEEDS; a++) {
            if ((set >> a & 1) == 0) {
                continue;
            }
            if (year[a] < from[a] || year[a] > to[a]) {
                return false;
            }
            for (int b = 0; b < DEEDS; b++) {
                if ((set >> b & 1) != 0) {
                    boolean tooFar = a != b && (hands[a] & hands[b]) != 0 && Math.abs(year[a] - year[b]) > w;
                    boolean ahead = (named[a] >> b & 1) != 0 && year[a] < year[b];
                    if (tooFar || ahead) {
                        return false;
                    }
                }
            }
        }
        return true;
    }

    /** Whether any way fits, and the least and greatest years of all that do. */
    private boolean tryAll(int set) {
        boolean found = false;
        int[] year = new int[DEEDS];
        for (int way = 0; way < YEARS * YEARS * YEARS * YEARS; way++) {
            for (int d = 0, rest = way; d < DEEDS; d++, rest /= YEARS) {
                year[d] = rest % YEARS;
            }
            if (fits(set, year)) {
                for (int d = 0; d < DEEDS; d++) {
                    least[d] = found ? Math.min(least[d], year[d]) : year[d];
                    greatest[d] = found ? Math.max(greatest[d], year[d]) : year[d];
                }
                found = true;
            }
        }
        return found;
    }

    private void compare(String place) {
        int all = (1 << DEEDS) - 1;
        int forged = all;
        int quarrel = 0;
        for (int set = 0; set <= all; set++) {
            boolean agrees = tryAll(set);
            check.same(place + "agree(" + set + ")", x.agree(set), agrees ? 1 : 0);
            int without = all & ~set;
            int order = Integer.compare(Integer.bitCount(without), Integer.bitCount(forged));
            if (agrees && (order < 0 || (order == 0 && without < forged))) {
                forged = without;
            }
            if (!agrees && (quarrel == 0 || Integer.bitCount(set) < Integer.bitCount(quarrel))) {
                quarrel = set;
            }
        }
        check.same(place + "forged()", x.forged(), forged);
        check.same(place + "quarrel()", x.quarrel(), quarrel);
        tryAll(all & ~forged);
        for (int d = 0; d < DEEDS; d++) {
            boolean isForged = (forged >> d & 1) != 0;
            check.same(place + "year(" + d + ", 0)", x.year(d, 0), isForged ? DeedBench.NONE : least[d]);
            check.same(place + "year(" + d + ", 1)", x.year(d, 1), isForged ? DeedBench.NONE : greatest[d]);
        }
    }
}

import java.util.ArrayList;
import java.util.List;

/**
 * The document once more, as plainly as can be and without thought of speed: every set
 * of deeds is tried, and years come from the shortest ways between all deeds.
 */
final class PlainBench {
    private static final int NONE = -1;
    private static final int FAR = 1_000_000;

    private final List<int[]> people = new ArrayList<>();
    private final List<int[]> formulas = new ArrayList<>();
    private final List<int[]> seals = new ArrayList<>();
    private final List<Deed> deeds = new ArrayList<>();
    private StringBuilder tape = new StringBuilder();
    private int w = 40;
    private Integer lightest = null;

    private static final class Deed {
        int from;
        int to;
        int weight;
        int house = NONE;
        int parcels = 0;
        int held = 0;
        String words = "";
        final List<int[]> marks = new ArrayList<>();

        boolean has(int kind, int which) {
            return marks.stream().anyMatch(m -> m[0] == kind && m[1] == which);
        }
    }

    private static boolean in(int x, int least, int most) {
        return least <= x && x <= most;
    }

    private static boolean areYears(int from, int to) {
        return in(from, 0, 3000) && in(to, 0, 3000) && from <= to;
    }

    private static int add(List<int[]> all, int most, int from, int to) {
        if (!areYears(from, to) || all.size() == most) {
            return NONE;
        }
        all.add(new int[] {from, to});
        return all.size() - 1;
    }

    private boolean isDeed(int d) {
        return in(d, 0, deeds.size() - 1);
    }

    int person(int from, int to) {
        return add(people, 20, from, to);
    }

    boolean lived(int p, int from, int to) {
        if (!in(p, 0, people.size() - 1) || !areYears(from, to)) {
            return false;
        }
        people.set(p, new int[] {from, to});
        lightest = null;
        return true;
    }

    int formula(int from, int to) {
        return add(formulas, 10, from, to);
    }

    int seal(int from, int to) {
        return add(seals, 8, from, to);
    }

    boolean span(int w) {
        if (!in(w, 0, 200)) {
            return false;
        }
        this.w = w;
        lightest = null;
        return true;
    }

    int deed(int from, int to, int weight) {
        if (!areYears(from, to) || !in(weight, 1, 99) || deeds.size() == 12) {
            return NONE;
        }
        Deed x = new Deed();
        x.from = from;
        x.to = to;
        x.weight = weight;
        deeds.add(x);
        lightest = null;
        return deeds.size() - 1;
    }

    boolean mark(int d, int kind, int which) {
        if (!isDeed(d) || !in(kind, 0, 4)) {
            return false;
        }
        int[] many = {people.size(), formulas.size(), seals.size(), 8, deeds.size()};
        if (!in(which, 0, many[kind] - 1) || (kind == 4 && which == d)) {
            return false;
        }
        Deed x = deeds.get(d);
        if (x.has(kind, which) || x.marks.size() == 8) {
            return false;
        }
        x.marks.add(new int[] {kind, which});
        lightest = null;
        return true;
    }

    private int[] ownYears(Deed x) {
        int[] years = {x.from, x.to};
        List<List<int[]>> spans = List.of(people, formulas, seals);
        for (int[] m : x.marks) {
            if (m[0] <= 2) {
                int[] s = spans.get(m[0]).get(m[1]);
                years[0] = Math.max(years[0], s[0]);
                years[1] = Math.min(years[1], s[1]);
            }
        }
        return years;
    }

    private static boolean shareHand(Deed a, Deed b) {
        return a.marks.stream().anyMatch(m -> m[0] == 3 && b.has(3, m[1]));
    }

    /** The most that deed b can be behind a, place 12 being year 0; null if a set doesn't agree. */
    private int[][] ways(int set) {
        int[][] way = new int[13][13];
        for (int a = 0; a < 13; a++) {
            for (int b = 0; b < 13; b++) {
                way[a][b] = a == b ? 0 : FAR;
            }
        }
        for (int a = 0; a < deeds.size(); a++) {
            if ((set >> a & 1) == 0) {
                continue;
            }
            int[] years = ownYears(deeds.get(a));
            way[12][a] = years[1];
            way[a][12] = -years[0];
            for (int b = 0; b < deeds.size(); b++) {
                if (a != b && (set >> b & 1) != 0) {
                    if (shareHand(deeds.get(a), deeds.get(b))) {
                        way[a][b] = Math.min(way[a][b], w);
                    }
                    if (deeds.get(a).has(4, b)) {
                        way[a][b] = Math.min(way[a][b], 0);
                    }
                }
            }
        }
        for (int k = 0; k < 13; k++) {
            for (int a = 0; a < 13; a++) {
                for (int b = 0; b < 13; b++) {
                    way[a][b] = Math.min(way[a][b], way[a][k] + way[k][b]);
                }
            }
        }
        for (int a = 0; a < 13; a++) {
            if (way[a][a] < 0) {
                return null;
            }
        }
        return way;
    }

    private boolean areDeeds(int set) {
        return in(set, 0, (1 << deeds.size()) - 1);
    }

    int agree(int set) {
        if (!areDeeds(set)) {
            return NONE;
        }
        return ways(set) != null ? 1 : 0;
    }

    int forged() {
        if (lightest == null) {
            lightest = lightestForged();
        }
        return lightest;
    }

    private int lightestForged() {
        int all = (1 << deeds.size()) - 1;
        int best = all;
        for (int set = 0; set <= all; set++) {
            int lighter = weight(best) - weight(set);
            int fewer = Integer.bitCount(best) - Integer.bitCount(set);
            boolean better = lighter > 0 || (lighter == 0 && (fewer > 0 || (fewer == 0 && set < best)));
            if (better && ways(all & ~set) != null) {
                best = set;
            }
        }
        return best;
    }

    private boolean isTrue(int d) {
        return (forged() >> d & 1) == 0;
    }

    int weight(int set) {
        if (!areDeeds(set)) {
            return NONE;
        }
        int sum = 0;
        for (int d = 0; d < deeds.size(); d++) {
            sum += (set >> d & 1) * deeds.get(d).weight;
        }
        return sum;
    }

    int year(int d, int what) {
        if (!isDeed(d) || !in(what, 0, 1) || !isTrue(d)) {
            return NONE;
        }
        int[][] way = ways(((1 << deeds.size()) - 1) & ~forged());
        return what == 0 ? -way[d][12] : way[12][d];
    }

    int quarrel() {
        int best = 0;
        for (int set = 1; set < 1 << deeds.size(); set++) {
            boolean better = best == 0 || Integer.bitCount(set) < Integer.bitCount(best);
            if (better && ways(set) == null) {
                best = set;
            }
        }
        return best;
    }

    int sure(int p, int what) {
        if (!in(p, 0, people.size() - 1) || !in(what, 0, 1)) {
            return NONE;
        }
        List<Integer> least = new ArrayList<>();
        List<Integer> greatest = new ArrayList<>();
        for (int d = 0; d < deeds.size(); d++) {
            if (deeds.get(d).has(0, p) && isTrue(d)) {
                least.add(year(d, 0));
                greatest.add(year(d, 1));
            }
        }
        if (least.isEmpty()) {
            return NONE;
        }
        int from = greatest.stream().min(Integer::compare).get();
        int to = least.stream().max(Integer::compare).get();
        return to < from ? NONE : what == 0 ? from : to;
    }

    int feed(int a, int b, int c, int d, int e) {
        if (tape.length() + 20 > 40) {
            return NONE;
        }
        for (int x : new int[] {a, b, c, d, e}) {
            for (int i = 3; i >= 0; i--) {
                tape.append((char) (x >> 8 * i & 255));
            }
        }
        return tape.length();
    }

    boolean words(int d, int n) {
        if (!isDeed(d) || !in(n, 0, 20) || n > tape.length()) {
            return false;
        }
        String text = tape.substring(0, n);
        tape = new StringBuilder();
        if (!text.matches("[a-z]*")) {
            return false;
        }
        deeds.get(d).words = text;
        return true;
    }

    int model(int d, int what) {
        if (!isDeed(d) || !in(what, 0, 3)) {
            return NONE;
        }
        String own = deeds.get(d).words;
        for (int n = own.length(); n >= 4; n--) {
            for (int other = 0; other < deeds.size(); other++) {
                for (int at = 0; other != d && at + n <= own.length(); at++) {
                    int there = deeds.get(other).words.indexOf(own.substring(at, at + n));
                    if (there >= 0) {
                        return new int[] {other, n, at, there}[what];
                    }
                }
            }
        }
        return NONE;
    }

    boolean claim(int d, int house, int parcels) {
        if (!isDeed(d) || !in(house, 0, 3) || !in(parcels, 0, 1023)) {
            return false;
        }
        deeds.get(d).house = house;
        deeds.get(d).parcels = parcels;
        return true;
    }

    private List<int[]> clashes() {
        List<int[]> found = new ArrayList<>();
        int forged = forged();
        for (int a = 0; a < deeds.size(); a++) {
            for (int b = a + 1; b < deeds.size(); b++) {
                Deed x = deeds.get(a);
                Deed y = deeds.get(b);
                boolean claimed = x.house != NONE && y.house != NONE && x.house != y.house;
                if (claimed && (x.parcels & y.parcels) != 0 && (forged & (1 << a | 1 << b)) == 0) {
                    found.add(new int[] {a, b, x.parcels & y.parcels});
                }
            }
        }
        return found;
    }

    int clash(int i, int what) {
        if (!in(what, 0, 2) || i < 0 || i >= clashes().size()) {
            return NONE;
        }
        return clashes().get(i)[what];
    }

    boolean court(int d, int how) {
        if (!isDeed(d) || !in(how, 0, 2)) {
            return false;
        }
        deeds.get(d).held = how;
        return true;
    }

    int otherwise(int i) {
        List<Integer> found = new ArrayList<>();
        for (int d = 0; d < deeds.size(); d++) {
            int held = deeds.get(d).held;
            if (held != 0 && (held == 1) != isTrue(d)) {
                found.add(d);
            }
        }
        return in(i, 0, found.size() - 1) ? found.get(i) : NONE;
    }

    int look(int d, int what) {
        if (!isDeed(d) || !in(what, 0, 9)) {
            return NONE;
        }
        Deed x = deeds.get(d);
        int[] own = ownYears(x);
        if (own[0] > own[1]) {
            own = new int[] {NONE, NONE};
        }
        return new int[] {
            x.from, x.to, x.weight, x.marks.size(), x.held, x.words.length(), x.house, x.parcels, own[0], own[1]
        }[what];
    }

    int count(int what) {
        switch (what) {
            case 0: return people.size();
            case 1: return formulas.size();
            case 2: return seals.size();
            case 3: return deeds.size();
            case 4: return w;
            case 5: return Integer.bitCount(forged());
            case 6: return tape.length();
            case 7: return clashes().size();
            default: return NONE;
        }
    }
}

/**
 * A bench that judges old deeds: when each can have been written, what must be
 * forged so that the rest agrees, and what follows from the deeds that are true.
 */
public final class DeedBench {
    public static final int NONE = -1;

    private static final int LAST_YEAR = 3000;
    private static final int PEOPLE = 20;
    private static final int FORMULAS = 10;
    private static final int SEALS = 8;
    private static final int HANDS = 8;
    private static final int DEEDS = 12;
    private static final int MARKS = 8;
    private static final int HEAVIEST = 99;
    private static final int WIDEST_SPAN = 200;
    private static final int FIRST_SPAN = 40;
    private static final int HOUSES = 4;
    private static final int MOST_PARCELS = 1023;

    private static final int WITNESS = 0;
    private static final int FORMULA = 1;
    private static final int SEAL = 2;
    private static final int HAND = 3;
    private static final int NAMED = 4;
    private static final int KINDS = 5;

    private static final int NOT_JUDGED = 0;
    private static final int HELD_TRUE = 1;
    private static final int HELD_FORGED = 2;

    private static final int TAPE = 40;
    private static final int FEED = 20;
    private static final int LETTERS = 20;
    private static final int LEAST_ALIKE = 4;

    private final Spans people = new Spans(PEOPLE);
    private final Spans formulas = new Spans(FORMULAS);
    private final Spans seals = new Spans(SEALS);
    private final Spans deeds = new Spans(DEEDS);
    private final Marks marks = new Marks();
    private final Timeline timeline = new Timeline();
    private final Search search = new Search(timeline);
    private final Writing writing = new Writing();
    private final int[] house = new int[DEEDS];
    private final int[] parcels = new int[DEEDS];
    private final int[] verdict = new int[DEEDS];
    private int trueOnes;
    private boolean settled;

    public DeedBench() {
        trueOnes = 0;
        settled = false;
    }

    public int person(int from, int to) {
        return people.add(from, to);
    }

    public boolean lived(int p, int from, int to) {
        if (!people.change(p, from, to)) {
            return false;
        }
        settled = false;
        return true;
    }

    public int formula(int from, int to) {
        return formulas.add(from, to);
    }

    public int seal(int from, int to) {
        return seals.add(from, to);
    }

    public boolean span(int w) {
        if (w < 0 || w > WIDEST_SPAN) {
            return false;
        }
        timeline.w = w;
        settled = false;
        return true;
    }

    public int deed(int from, int to, int weight) {
        if (weight < 1 || weight > HEAVIEST) {
            return NONE;
        }
        int d = deeds.add(from, to);
        if (d < 0 || d >= DEEDS) {
            return NONE;
        }
        search.weights[d] = weight;
        house[d] = NONE;
        settled = false;
        return d;
    }

    public boolean mark(int d, int kind, int which) {
        if (!deeds.has(d) || !canBeMarked(kind, which) || (kind == NAMED && which == d)) {
            return false;
        }
        if (!marks.put(d, kind, which)) {
            return false;
        }
        settled = false;
        return true;
    }

    public int agree(int set) {
        if (!areDeeds(set)) {
            return NONE;
        }
        settle();
        return timeline.roundsToBreak(set) == NONE ? 1 : 0;
    }

    public int forged() {
        settle();
        return forgedOnes();
    }

    public int weight(int set) {
        return areDeeds(set) ? search.weigh(set) : NONE;
    }

    public int year(int d, int what) {
        if (!deeds.has(d) || what < 0 || what > 1) {
            return NONE;
        }
        settle();
        if (!isTrue(d)) {
            return NONE;
        }
        return what == 0 ? timeline.least[d] : timeline.greatest[d];
    }

    public int quarrel() {
        settle();
        return timeline.quarrelIn(allDeeds());
    }

    public int sure(int p, int what) {
        if (!people.has(p) || what < 0 || what > 1) {
            return NONE;
        }
        settle();
        // With no deed that was witnessed these stay the wrong way round, so that is nothing, too.
        int from = LAST_YEAR;
        int to = NONE;
        for (int d = 0; d < DEEDS; d++) {
            if (isTrue(d) && holds(marks.of(d, WITNESS), p)) {
                from = Math.min(from, timeline.greatest[d]);
                to = Math.max(to, timeline.least[d]);
            }
        }
        if (to < from) {
            return NONE;
        }
        return what == 0 ? from : to;
    }

    public int feed(int a, int b, int c, int d, int e) {
        if (writing.tapeSize + FEED > TAPE) {
            return NONE;
        }
        writing.putBytes(a);
        writing.putBytes(b);
        writing.putBytes(c);
        writing.putBytes(d);
        writing.putBytes(e);
        return writing.tapeSize;
    }

    public boolean words(int d, int n) {
        return deeds.has(d) && writing.take(d, n);
    }

    public int model(int d, int what) {
        if (!deeds.has(d) || what < 0 || what > 3) {
            return NONE;
        }
        writing.findModel(d);
        if (writing.modelDeed == NONE) {
            return NONE;
        }
        switch (what) {
            case 0:
                return writing.modelDeed;
            case 1:
                return writing.modelLetters;
            case 2:
                return writing.modelHere;
            default:
                return writing.modelThere;
        }
    }

    public boolean claim(int d, int house, int parcels) {
        if (!deeds.has(d) || house < 0 || house >= HOUSES || parcels < 0 || parcels > MOST_PARCELS) {
            return false;
        }
        this.house[d] = house;
        this.parcels[d] = parcels;
        return true;
    }

    public int clash(int i, int what) {
        if (i < 0 || what < 0 || what > 2) {
            return NONE;
        }
        settle();
        int left = i;
        for (int a = 0; a < DEEDS; a++) {
            for (int b = a + 1; b < DEEDS; b++) {
                int both = disputed(a, b);
                if (both != 0 && left == 0) {
                    return what == 0 ? a : what == 1 ? b : both;
                }
                if (both != 0) {
                    left--;
                }
            }
        }
        return NONE;
    }

    public boolean court(int d, int how) {
        if (!deeds.has(d) || how < NOT_JUDGED || how > HELD_FORGED) {
            return false;
        }
        verdict[d] = how;
        return true;
    }

    public int otherwise(int i) {
        if (i < 0) {
            return NONE;
        }
        settle();
        int left = i;
        for (int d = 0; d < DEEDS; d++) {
            if (isMisjudged(d)) {
                if (left == 0) {
                    return d;
                }
                left--;
            }
        }
        return NONE;
    }

    public int look(int d, int what) {
        if (!deeds.has(d)) {
            return NONE;
        }
        switch (what) {
            case 0:
                return deeds.from[d];
            case 1:
                return deeds.to[d];
            case 2:
                return search.weights[d];
            case 3:
                return marks.many(d);
            case 4:
                return verdict[d];
            case 5:
                return writing.sizes[d];
            case 6:
                return house[d];
            case 7:
                return parcels[d];
            case 8:
                return hasOwnYear(d) ? ownFirst(d) : NONE;
            case 9:
                return hasOwnYear(d) ? ownLast(d) : NONE;
            default:
                return NONE;
        }
    }

    public int count(int what) {
        switch (what) {
            case 0:
                return people.size;
            case 1:
                return formulas.size;
            case 2:
                return seals.size;
            case 3:
                return deeds.size;
            case 4:
                return timeline.w;
            case 5:
                settle();
                return Integer.bitCount(forgedOnes());
            case 6:
                return writing.tapeSize;
            case 7:
                settle();
                return clashes();
            default:
                return NONE;
        }
    }

    private static boolean holds(int set, int i) {
        return (set >> i & 1) != 0;
    }

    private int allDeeds() {
        return (1 << deeds.size) - 1;
    }

    private boolean areDeeds(int set) {
        return (set & ~allDeeds()) == 0;
    }

    private boolean isTrue(int d) {
        return holds(trueOnes, d);
    }

    private int forgedOnes() {
        return allDeeds() & ~trueOnes;
    }

    private boolean canBeMarked(int kind, int which) {
        switch (kind) {
            case WITNESS:
                return people.has(which);
            case FORMULA:
                return formulas.has(which);
            case SEAL:
                return seals.has(which);
            case HAND:
                return which >= 0 && which < HANDS;
            case NAMED:
                return deeds.has(which);
            default:
                return false;
        }
    }

    private int ownFirst(int d) {
        int first = deeds.has(d) ? deeds.from[d] : 0;
        first = people.latestStart(marks.of(d, WITNESS), first);
        first = formulas.latestStart(marks.of(d, FORMULA), first);
        return seals.latestStart(marks.of(d, SEAL), first);
    }

    private int ownLast(int d) {
        int last = deeds.has(d) ? deeds.to[d] : 0;
        last = people.earliestEnd(marks.of(d, WITNESS), last);
        last = formulas.earliestEnd(marks.of(d, FORMULA), last);
        return seals.earliestEnd(marks.of(d, SEAL), last);
    }

    private boolean hasOwnYear(int d) {
        return ownFirst(d) <= ownLast(d);
    }

    /** Judges anew only after a change: most calls ask for the same judgement again. */
    private void settle() {
        if (settled) {
            return;
        }
        for (int d = 0; d < DEEDS; d++) {
            timeline.first[d] = ownFirst(d);
            timeline.last[d] = ownLast(d);
            timeline.named[d] = marks.of(d, NAMED);
            timeline.near[d] = marks.sharingHand(d);
        }
        trueOnes = allDeeds() & ~search.lightest(allDeeds());
        timeline.keepYears(trueOnes);
        settled = true;
    }

    /** The PARCELS over which two TRUE deeds clash, or 0; a deed without a CLAIM gives none. */
    private int disputed(int a, int b) {
        if (!isTrue(a) || !isTrue(b) || house[a] == house[b]) {
            return 0;
        }
        return parcels[a] & parcels[b];
    }

    private int clashes() {
        int found = 0;
        for (int a = 0; a < DEEDS; a++) {
            for (int b = a + 1; b < DEEDS; b++) {
                if (disputed(a, b) != 0) {
                    found++;
                }
            }
        }
        return found;
    }

    private boolean isMisjudged(int d) {
        return verdict[d] == (isTrue(d) ? HELD_FORGED : HELD_TRUE);
    }

    /** Things that each have a first and a last YEAR, numbered as they come. */
    private static final class Spans {
        private final int[] from;
        private final int[] to;
        private int size;

        Spans(int most) {
            int room = Math.max(most, 0);
            from = new int[room];
            to = new int[room];
            size = 0;
        }

        private static boolean areYears(int first, int last) {
            return first >= 0 && first <= last && last <= LAST_YEAR;
        }

        boolean has(int i) {
            return i >= 0 && i < size && i < from.length && i < to.length;
        }

        int add(int first, int last) {
            if (!areYears(first, last) || size >= from.length) {
                return NONE;
            }
            size++;
            change(size - 1, first, last);
            return size - 1;
        }

        boolean change(int i, int first, int last) {
            if (!has(i) || !areYears(first, last)) {
                return false;
            }
            from[i] = first;
            to[i] = last;
            return true;
        }

        int latestStart(int set, int start) {
            int latest = start;
            for (int i = 0; i < from.length; i++) {
                if (holds(set, i)) {
                    latest = Math.max(latest, from[i]);
                }
            }
            return latest;
        }

        int earliestEnd(int set, int end) {
            int earliest = end;
            for (int i = 0; i < to.length; i++) {
                if (holds(set, i)) {
                    earliest = Math.min(earliest, to[i]);
                }
            }
            return earliest;
        }
    }

    /** The MARKS as bits, a set for each kind and deed: no two of a deed are alike. */
    private static final class Marks {
        private final int[] sets = new int[KINDS * DEEDS];

        private static boolean isPlace(int d, int kind) {
            return d >= 0 && d < DEEDS && kind >= 0 && kind < KINDS;
        }

        int of(int d, int kind) {
            return isPlace(d, kind) ? sets[kind * DEEDS + d] : 0;
        }

        int many(int d) {
            int found = 0;
            for (int kind = 0; kind < KINDS; kind++) {
                found += Integer.bitCount(of(d, kind));
            }
            return found;
        }

        boolean put(int d, int kind, int which) {
            if (!isPlace(d, kind) || holds(of(d, kind), which) || many(d) >= MARKS) {
                return false;
            }
            sets[kind * DEEDS + d] |= 1 << which;
            return true;
        }

        int sharingHand(int d) {
            int found = 0;
            for (int other = 0; other < DEEDS; other++) {
                if (other != d && (of(d, HAND) & of(other, HAND)) != 0) {
                    found |= 1 << other;
                }
            }
            return found;
        }
    }

    /**
     * The YEARS that deeds leave one another. Each rule between two deeds has the form
     * 'b is at most so many years behind a', and that number is never below 0. So the
     * greatest years that all the rules leave are a way to agree by themselves, if any is.
     */
    private static final class Timeline {
        private final int[] first = new int[DEEDS];
        private final int[] last = new int[DEEDS];
        private final int[] near = new int[DEEDS];
        private final int[] named = new int[DEEDS];
        private final int[] least = new int[DEEDS];
        private final int[] greatest = new int[DEEDS];
        private final int[] latest = new int[DEEDS];
        private final int[] before = new int[DEEDS];
        private final int[] cause = new int[DEEDS];
        private int w = FIRST_SPAN;
        private int broken = NONE;

        /**
         * After how many rounds a deed of the set has no year left; NONE if the set agrees.
         * Years go one rule further in a round, so the fewest deeds that can't be
         * together are one more than the rounds.
         */
        int roundsToBreak(int set) {
            for (int d = 0; d < DEEDS; d++) {
                latest[d] = last[d];
                cause[d] = NONE;
            }
            for (int round = 0; round <= DEEDS; round++) {
                broken = firstBroken(set);
                if (broken != NONE) {
                    return round;
                }
                if (!lowerOnce(set)) {
                    return NONE;
                }
            }
            return NONE;
        }

        private int firstBroken(int set) {
            for (int d = 0; d < DEEDS; d++) {
                if (holds(set, d) && latest[d] < first[d]) {
                    return d;
                }
            }
            return NONE;
        }

        private boolean lowerOnce(int set) {
            System.arraycopy(latest, 0, before, 0, DEEDS);
            boolean changed = false;
            for (int a = 0; a < DEEDS; a++) {
                int bound = holds(set, a) ? (near[a] | named[a]) & set : 0;
                for (int b = 0; b < DEEDS && bound != 0; b++) {
                    int limit = holds(named[a], b) ? before[a] : before[a] + w;
                    if (holds(bound, b) && latest[b] > limit) {
                        latest[b] = limit;
                        cause[b] = a;
                        changed = true;
                    }
                }
            }
            return changed;
        }

        private boolean raiseOnce(int set) {
            boolean changed = false;
            for (int a = 0; a < DEEDS; a++) {
                int bound = holds(set, a) ? (near[a] | named[a]) & set : 0;
                for (int b = 0; b < DEEDS && bound != 0; b++) {
                    int limit = holds(named[a], b) ? least[b] : least[b] - w;
                    if (holds(bound, b) && least[a] < limit) {
                        least[a] = limit;
                        changed = true;
                    }
                }
            }
            return changed;
        }

        /** Some deeds of the set that can't be together, quickly found; 0 if the set agrees. */
        int conflictIn(int set) {
            if (roundsToBreak(set) == NONE) {
                return 0;
            }
            int found = 0;
            int d = broken;
            for (int step = 0; step < DEEDS && d >= 0 && d < DEEDS; step++) {
                found |= 1 << d;
                d = cause[d];
            }
            return found;
        }

        /**
         * The fewest deeds of the set that can't be together, the least as bits. A deed
         * goes, the highest first, if without it as few can't be together: what stays
         * in the end is all needed.
         */
        int quarrelIn(int set) {
            int rounds = roundsToBreak(set);
            if (rounds == NONE) {
                return 0;
            }
            int left = set;
            for (int d = DEEDS - 1; d >= 0; d--) {
                int fewer = left & ~(1 << d);
                if (fewer != left && roundsToBreak(fewer) == rounds) {
                    left = fewer;
                }
            }
            return left;
        }

        /** Keeps the years of a set that agrees where later questions don't touch them. */
        void keepYears(int set) {
            roundsToBreak(set);
            System.arraycopy(latest, 0, greatest, 0, DEEDS);
            System.arraycopy(first, 0, least, 0, DEEDS);
            for (int round = 0; round <= DEEDS; round++) {
                if (!raiseOnce(set)) {
                    break;
                }
            }
        }
    }

    /** The search for the lightest set without which the others agree. */
    private static final class Search {
        private final Timeline timeline;
        private final int[] weights = new int[DEEDS];
        private int best;
        private int bestWeight;

        Search(Timeline timeline) {
            this.timeline = timeline;
            best = 0;
            bestWeight = 0;
        }

        int lightest(int all) {
            best = all;
            bestWeight = weigh(all);
            forge(this, all, 0, 0, 0);
            return best;
        }

        int weigh(int set) {
            int sum = 0;
            for (int d = 0; d < DEEDS; d++) {
                if (holds(set, d)) {
                    sum += weights[d];
                }
            }
            return sum;
        }

        /**
         * One of the deeds that can't be together must go. Those tried are held from
         * then on, so that no set is tried twice; each level takes a deed away, so no
         * more levels than deeds are needed.
         */
        private static void forge(Search search, int left, int gone, int held, int depth) {
            if (depth > DEEDS || search.weigh(gone) > search.bestWeight) {
                return;
            }
            int conflict = search.timeline.conflictIn(left);
            if (conflict == 0) {
                search.keepBetter(gone);
                return;
            }
            int tried = held;
            for (int d = 0; d < DEEDS; d++) {
                int bit = 1 << d;
                if ((conflict & ~tried & bit) != 0) {
                    forge(search, left & ~bit, gone | bit, tried, depth + 1);
                    tried |= bit;
                }
            }
        }

        private void keepBetter(int set) {
            int order = Integer.compare(weigh(set), bestWeight);
            if (order == 0) {
                order = Integer.compare(Integer.bitCount(set), Integer.bitCount(best));
            }
            if (order < 0 || (order == 0 && set < best)) {
                best = set;
                bestWeight = weigh(set);
            }
        }
    }

    /** The tape, the WORDS that came from it, and the search for a deed's model. */
    private static final class Writing {
        private final int[] tape = new int[TAPE];
        private final int[] letters = new int[DEEDS * LETTERS];
        private final int[] sizes = new int[DEEDS];
        private int tapeSize = 0;
        private int modelDeed = NONE;
        private int modelLetters = 0;
        private int modelHere = 0;
        private int modelThere = 0;

        void putBytes(int four) {
            for (int shift = 24; shift >= 0; shift -= 8) {
                if (tapeSize >= 0 && tapeSize < TAPE) {
                    tape[tapeSize] = four >>> shift & 255;
                    tapeSize++;
                }
            }
        }

        boolean take(int d, int n) {
            if (d < 0 || d >= DEEDS || n < 0 || n > LETTERS || n > tapeSize) {
                return false;
            }
            tapeSize = 0;
            for (int i = 0; i < n; i++) {
                if (tape[i] < 'a' || tape[i] > 'z') {
                    return false;
                }
            }
            System.arraycopy(tape, 0, letters, d * LETTERS, n);
            sizes[d] = n;
            return true;
        }

        void findModel(int d) {
            modelDeed = NONE;
            modelLetters = LEAST_ALIKE - 1;
            for (int other = 0; other < DEEDS; other++) {
                if (other != d) {
                    compareWith(d, other);
                }
            }
        }

        private void compareWith(int d, int other) {
            for (int here = 0; here < LETTERS; here++) {
                for (int there = 0; there < LETTERS; there++) {
                    int found = alike(d, here, other, there);
                    if (found > modelLetters) {
                        modelDeed = other;
                        modelLetters = found;
                        modelHere = here;
                        modelThere = there;
                    }
                }
            }
        }

        private int alike(int d, int here, int other, int there) {
            if (d < 0 || d >= DEEDS || other < 0 || other >= DEEDS) {
                return 0;
            }
            int most = Math.min(sizes[d] - here, sizes[other] - there);
            // What can't be longer than the longest so far needn't be read.
            if (most <= modelLetters) {
                return 0;
            }
            int found = 0;
            while (found < most && letters[d * LETTERS + here + found] == letters[other * LETTERS + there + found]) {
                found++;
            }
            return found;
        }
    }
}

/**
 * Runs of calls, drawn by a fixed rule, on DeedBench and on PlainBench: every answer must
 * be the same. Wrong arguments come among the right ones; no call may throw.
 */
public final class PlainBenchTest {
    private static final int RUNS = 150;
    private static final int CALLS = 512;
    private static final int[] ODD = {
        -1, -2, 8, 10, 12, 20, 21, 31, 32, 33, 1023, 1024, 3000, 3001, 4095, 4096, Integer.MAX_VALUE, Integer.MIN_VALUE
    };
    private static final Check check = new Check("PlainBenchTest");

    private long state;
    private final int years;
    private final int letters;
    private final DeedBench x = new DeedBench();
    private final PlainBench y = new PlainBench();

    private PlainBenchTest(int run) {
        state = run * 7919L + 12345;
        years = run % 4 == 0 ? 3001 : run % 4 == 1 ? 12 : 150;
        letters = run % 3 == 0 ? 1 : 2;
    }

    public static void main(String[] args) {
        for (int run = 0; run < RUNS && check.isClean(); run++) {
            PlainBenchTest test = new PlainBenchTest(run);
            for (int i = test.begin(run); i < CALLS && check.isClean(); i++) {
                test.call("run " + run + ", call " + i + ": ");
            }
        }
        check.end();
    }

    private int draw(int below) {
        state = state * 6364136223846793005L + 1442695040888963407L;
        return (int) ((state >>> 33) % below);
    }

    /** Now and then a number that is out of place. */
    private int pick(int below) {
        return draw(25) == 0 ? ODD[draw(ODD.length)] : draw(Math.max(below, 1));
    }

    private int from() {
        return draw(40) == 0 ? ODD[draw(ODD.length)] : draw(years);
    }

    private int to(int from) {
        return draw(40) == 0 ? ODD[draw(ODD.length)] : Math.min(3000, from + draw(Math.max(years / 3, 1)));
    }

    private int fourBytes() {
        int bytes = 0;
        for (int i = 0; i < 4; i++) {
            bytes = bytes << 8 | (draw(60) == 0 ? draw(256) : 'a' + draw(letters + 1));
        }
        return bytes;
    }

    /**
     * Most runs begin with deeds, so that there is something to judge; wide ones make long quarrels.
     * Answers how many calls it made, for no more than 512 are promised.
     */
    private int begin(int run) {
        for (int d = 0; d < run % 13; d++) {
            boolean wide = run % 3 != 0 && draw(3) != 0;
            int from = wide ? 0 : draw(years);
            int to = wide ? 3000 : Math.min(3000, from + draw(Math.max(years / 8, 1)));
            int weight = 1 + draw(run % 5 == 0 ? 99 : 3);
            check.same("deed", x.deed(from, to, weight), y.deed(from, to, weight));
        }
        check.same("span", x.span(run % 7) ? 1 : 0, y.span(run % 7) ? 1 : 0);
        return y.count(3) + 1;
    }

    private void call(String place) {
        int what = draw(100);
        if (what < 38) {
            tell(place, what);
        } else {
            ask(place, what);
        }
    }

    private void tell(String place, int what) {
        int f = from();
        int t = to(f);
        int d = pick(y.count(3));
        if (what < 2) {
            check.same(place + "person", x.person(f, t), y.person(f, t));
        } else if (what < 5) {
            int p = pick(y.count(0));
            same(place + "lived", x.lived(p, f, t), y.lived(p, f, t));
        } else if (what < 6) {
            check.same(place + "formula", x.formula(f, t), y.formula(f, t));
        } else if (what < 7) {
            check.same(place + "seal", x.seal(f, t), y.seal(f, t));
        } else if (what < 9) {
            int w = draw(2) == 0 ? pick(years / 4) : pick(201);
            same(place + "span", x.span(w), y.span(w));
        } else if (what < 10) {
            int weight = pick(100);
            check.same(place + "deed", x.deed(f, t, weight), y.deed(f, t, weight));
        } else if (what < 18) {
            tellMark(place, d);
        } else if (what < 24) {
            int[] i = {fourBytes(), fourBytes(), fourBytes(), fourBytes(), fourBytes()};
            check.same(place + "feed", x.feed(i[0], i[1], i[2], i[3], i[4]), y.feed(i[0], i[1], i[2], i[3], i[4]));
        } else if (what < 30) {
            int n = pick(21);
            same(place + "words", x.words(d, n), y.words(d, n));
        } else if (what < 34) {
            int house = pick(4);
            int parcels = pick(1024) & (draw(3) == 0 ? 15 : -1);
            same(place + "claim", x.claim(d, house, parcels), y.claim(d, house, parcels));
        } else {
            int how = pick(3);
            same(place + "court", x.court(d, how), y.court(d, how));
        }
    }

    private void tellMark(String place, int d) {
        int kind = draw(3) == 0 ? pick(5) : 3 + draw(2);
        int below = kind == 4 ? y.count(3) : kind == 3 ? 4 : kind >= 0 && kind < 3 ? y.count(kind) : 1;
        int which = pick(below);
        same(place + "mark " + kind + " " + which, x.mark(d, kind, which), y.mark(d, kind, which));
    }

    private void ask(String place, int what) {
        int d = pick(y.count(3));
        int i = pick(4);
        int set = draw(8) == 0 ? pick(4096) : draw(1 << y.count(3));
        if (what < 48) {
            check.same(place + "agree " + set, x.agree(set), y.agree(set));
        } else if (what < 52) {
            check.same(place + "forged", x.forged(), y.forged());
        } else if (what < 56) {
            check.same(place + "weight " + set, x.weight(set), y.weight(set));
        } else if (what < 66) {
            int end = draw(4) == 0 ? i : i & 1;
            check.same(place + "year " + d + " " + end, x.year(d, end), y.year(d, end));
        } else if (what < 70) {
            check.same(place + "quarrel", x.quarrel(), y.quarrel());
        } else if (what < 74) {
            int p = pick(y.count(0));
            check.same(place + "sure " + p + " " + i, x.sure(p, i), y.sure(p, i));
        } else if (what < 82) {
            check.same(place + "model " + d + " " + i, x.model(d, i), y.model(d, i));
        } else if (what < 86) {
            int which = pick(3);
            check.same(place + "clash " + i + " " + which, x.clash(i, which), y.clash(i, which));
        } else if (what < 90) {
            check.same(place + "otherwise " + i, x.otherwise(i), y.otherwise(i));
        } else if (what < 96) {
            int look = pick(11);
            check.same(place + "look " + d + " " + look, x.look(d, look), y.look(d, look));
        } else {
            int count = pick(9);
            check.same(place + "count " + count, x.count(count), y.count(count));
        }
    }

    private void same(String call, boolean got, boolean want) {
        check.same(call, got ? 1 : 0, want ? 1 : 0);
    }
}

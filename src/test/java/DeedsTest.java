/** Promises 7, 8, 22 and 23: deed, mark, look, count. */
public final class DeedsTest {
    private static final Check check = new Check("DeedsTest");

    public static void main(String[] args) {
        deeds();
        markKinds();
        markLimits();
        refusedMarks();
        look();
        ownYears();
        count();
        check.end();
    }

    private static void deeds() {
        DeedBench x = new DeedBench();
        check.same("deed(-1, 5, 1)", x.deed(-1, 5, 1), DeedBench.NONE);
        check.same("deed(6, 5, 1)", x.deed(6, 5, 1), DeedBench.NONE);
        check.same("deed(0, 3001, 1)", x.deed(0, 3001, 1), DeedBench.NONE);
        check.same("deed(0, 5, 0)", x.deed(0, 5, 0), DeedBench.NONE);
        check.same("deed(0, 5, 100)", x.deed(0, 5, 100), DeedBench.NONE);
        check.same("deed(0, 5, -7)", x.deed(0, 5, -7), DeedBench.NONE);
        check.same("refused deeds", x.count(3), 0);
        check.same("deed(0, 3000, 1)", x.deed(0, 3000, 1), 0);
        check.same("deed(3000, 3000, 99)", x.deed(3000, 3000, 99), 1);
        for (int d = 2; d < 12; d++) {
            check.same("deed " + d, x.deed(d, d + 1, d), d);
        }
        check.same("a 13th deed", x.deed(1, 2, 3), DeedBench.NONE);
        check.same("count(3)", x.count(3), 12);
        check.same("look(11, 2)", x.look(11, 2), 11);
    }

    private static void markKinds() {
        DeedBench x = new DeedBench();
        x.person(10, 20);
        x.formula(10, 20);
        x.seal(10, 20);
        x.deed(0, 100, 1);
        x.deed(0, 100, 1);
        for (int kind = 0; kind <= 2; kind++) {
            check.no("mark(0, " + kind + ", -1)", x.mark(0, kind, -1));
            check.no("mark(0, " + kind + ", 1)", x.mark(0, kind, 1));
            check.yes("mark(0, " + kind + ", 0)", x.mark(0, kind, 0));
            check.no("mark(0, " + kind + ", 0) again", x.mark(0, kind, 0));
        }
        check.no("mark(0, 3, -1)", x.mark(0, 3, -1));
        check.no("mark(0, 3, 8)", x.mark(0, 3, 8));
        check.yes("mark(0, 3, 7)", x.mark(0, 3, 7));
        check.no("mark(0, 3, 7) again", x.mark(0, 3, 7));
        check.no("mark(0, 4, 0), itself", x.mark(0, 4, 0));
        check.no("mark(0, 4, 2)", x.mark(0, 4, 2));
        check.no("mark(0, 4, -1)", x.mark(0, 4, -1));
        check.yes("mark(0, 4, 1)", x.mark(0, 4, 1));
        check.no("mark(0, 4, 1) again", x.mark(0, 4, 1));
        check.yes("mark(1, 4, 0), the other way", x.mark(1, 4, 0));
        check.no("mark(0, 5, 0)", x.mark(0, 5, 0));
        check.no("mark(0, -1, 0)", x.mark(0, -1, 0));
        check.no("mark(2, 3, 0)", x.mark(2, 3, 0));
        check.no("mark(-1, 3, 0)", x.mark(-1, 3, 0));
        check.no("mark(0, 3, 32)", x.mark(0, 3, 32));
        check.no("mark(0, MAX, MIN)", x.mark(0, Integer.MAX_VALUE, Integer.MIN_VALUE));
        check.same("look(0, 3)", x.look(0, 3), 5);
        check.same("look(1, 3)", x.look(1, 3), 1);
    }

    private static void markLimits() {
        DeedBench x = new DeedBench();
        for (int i = 0; i < 8; i++) {
            x.person(i, i + 100);
        }
        x.formula(0, 90);
        x.deed(0, 3000, 1);
        x.deed(0, 3000, 1);
        for (int i = 0; i < 7; i++) {
            check.yes("witness " + i, x.mark(0, 0, i));
        }
        check.yes("an 8th mark", x.mark(0, 1, 0));
        check.no("a 9th mark, a witness", x.mark(0, 0, 7));
        check.no("a 9th mark, a hand", x.mark(0, 3, 0));
        check.no("a 9th mark, a deed", x.mark(0, 4, 1));
        check.same("look(0, 3)", x.look(0, 3), 8);
        check.same("year(0, 0)", x.year(0, 0), 6);
        check.same("year(0, 1)", x.year(0, 1), 90);
        check.yes("the other deed's first", x.mark(1, 0, 7));
    }

    private static void refusedMarks() {
        DeedBench x = new DeedBench();
        x.deed(0, 0, 1);
        x.deed(1, 1, 1);
        check.no("mark(0, 4, 0)", x.mark(0, 4, 0));
        check.no("mark(0, 4, 2)", x.mark(0, 4, 2));
        x.deed(2, 2, 1);
        check.same("a deed named before it was there", x.forged(), 0);
        check.same("look(0, 3)", x.look(0, 3), 0);
        check.yes("mark(0, 4, 2)", x.mark(0, 4, 2));
        check.same("forged()", x.forged(), 1);
    }

    private static void look() {
        DeedBench x = new DeedBench();
        check.same("look(0, 0) of none", x.look(0, 0), DeedBench.NONE);
        x.deed(17, 29, 33);
        check.same("look(0, 0)", x.look(0, 0), 17);
        check.same("look(0, 1)", x.look(0, 1), 29);
        check.same("look(0, 2)", x.look(0, 2), 33);
        check.same("look(0, 3)", x.look(0, 3), 0);
        check.same("look(0, 4)", x.look(0, 4), 0);
        check.same("look(0, 5)", x.look(0, 5), 0);
        check.same("look(0, 6)", x.look(0, 6), DeedBench.NONE);
        check.same("look(0, 7)", x.look(0, 7), 0);
        check.same("look(0, 8)", x.look(0, 8), 17);
        check.same("look(0, 9)", x.look(0, 9), 29);
        check.same("look(0, 10)", x.look(0, 10), DeedBench.NONE);
        check.same("look(0, -1)", x.look(0, -1), DeedBench.NONE);
        check.same("look(-1, 0)", x.look(-1, 0), DeedBench.NONE);
        check.same("look(1, 0)", x.look(1, 0), DeedBench.NONE);
        check.same("look(MAX, 0)", x.look(Integer.MAX_VALUE, 0), DeedBench.NONE);
        x.court(0, 2);
        x.claim(0, 3, 1023);
        check.same("look(0, 4)", x.look(0, 4), 2);
        check.same("look(0, 6)", x.look(0, 6), 3);
        check.same("look(0, 7)", x.look(0, 7), 1023);
    }

    private static void ownYears() {
        DeedBench x = new DeedBench();
        x.person(0, 50);
        x.formula(20, 3000);
        x.seal(60, 70);
        x.deed(10, 80, 1);
        x.deed(30, 30, 9);
        x.mark(0, 3, 0);
        x.mark(1, 3, 0);
        x.span(0);
        x.mark(0, 4, 1);
        check.same("hands and deeds not asked, first", x.look(0, 8), 10);
        check.same("hands and deeds not asked, last", x.look(0, 9), 80);
        x.mark(0, 0, 0);
        x.mark(0, 1, 0);
        check.same("look(0, 8)", x.look(0, 8), 20);
        check.same("look(0, 9)", x.look(0, 9), 50);
        check.same("look(0, 0) stays", x.look(0, 0), 10);
        check.same("look(0, 1) stays", x.look(0, 1), 80);
        x.mark(0, 2, 0);
        check.same("no year left, first", x.look(0, 8), DeedBench.NONE);
        check.same("no year left, last", x.look(0, 9), DeedBench.NONE);
        x.lived(0, 0, 60);
        check.same("one year left, first", x.look(0, 8), 60);
        check.same("one year left, last", x.look(0, 9), 60);
    }

    private static void count() {
        DeedBench x = new DeedBench();
        check.same("count(-1)", x.count(-1), DeedBench.NONE);
        check.same("count(8)", x.count(8), DeedBench.NONE);
        check.same("count(MIN)", x.count(Integer.MIN_VALUE), DeedBench.NONE);
        x.person(1, 2);
        x.person(1, 2);
        x.formula(1, 2);
        x.formula(1, 2);
        x.formula(1, 2);
        x.seal(1, 1);
        for (int d = 0; d < 5; d++) {
            x.deed(d, d, 1);
        }
        x.span(0);
        x.feed(0, 0, 0, 0, 0);
        for (int d = 0; d < 4; d++) {
            x.mark(d, 3, 0);
        }
        x.claim(3, 0, 3);
        x.claim(4, 1, 2);
        x.claim(0, 2, 3);
        check.same("count(0)", x.count(0), 2);
        check.same("count(1)", x.count(1), 3);
        check.same("count(2)", x.count(2), 1);
        check.same("count(3)", x.count(3), 5);
        check.same("count(4)", x.count(4), 0);
        check.same("count(5)", x.count(5), 3);
        check.same("count(6)", x.count(6), 20);
        check.same("count(7)", x.count(7), 1);
        x.span(3);
        check.same("count(5)", x.count(5), 0);
        check.same("count(7)", x.count(7), 3);
    }
}

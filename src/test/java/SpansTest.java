/** Promises 1 to 6: a new object, person, lived, formula, seal, span. */
public final class SpansTest {
    private static final Check check = new Check("SpansTest");

    public static void main(String[] args) {
        newObject();
        people();
        livedOtherwise();
        formulas();
        seals();
        span();
        check.end();
    }

    private static void newObject() {
        DeedBench x = new DeedBench();
        for (int what = 0; what <= 3; what++) {
            check.same("count(" + what + ") of a new one", x.count(what), 0);
        }
        check.same("count(4)", x.count(4), 40);
        check.same("count(5)", x.count(5), 0);
        check.same("count(6)", x.count(6), 0);
        check.same("count(7)", x.count(7), 0);
        check.same("forged()", x.forged(), 0);
        check.same("quarrel()", x.quarrel(), 0);
        check.same("agree(0)", x.agree(0), 1);
        DeedBench other = new DeedBench();
        other.person(1, 2);
        other.deed(1, 2, 3);
        check.same("another bench's people", x.count(0), 0);
        check.same("another bench's deeds", x.count(3), 0);
    }

    private static void people() {
        DeedBench x = new DeedBench();
        check.same("person(-1, 0)", x.person(-1, 0), DeedBench.NONE);
        check.same("person(3000, 3001)", x.person(3000, 3001), DeedBench.NONE);
        check.same("person(2, 1)", x.person(2, 1), DeedBench.NONE);
        check.same("person(MIN, MAX)", x.person(Integer.MIN_VALUE, Integer.MAX_VALUE), DeedBench.NONE);
        check.same("refused people", x.count(0), 0);
        check.same("person(0, 3000)", x.person(0, 3000), 0);
        check.same("person(3000, 3000)", x.person(3000, 3000), 1);
        check.same("person(0, 0)", x.person(0, 0), 2);
        for (int p = 3; p < 20; p++) {
            check.same("person " + p, x.person(5, 9), p);
        }
        check.same("a 21st person", x.person(5, 9), DeedBench.NONE);
        check.same("count(0)", x.count(0), 20);
        x.deed(0, 3000, 1);
        check.yes("mark(0, 0, 19)", x.mark(0, 0, 19));
        check.same("first year", x.look(0, 8), 5);
        check.same("last year", x.look(0, 9), 9);
    }

    private static void livedOtherwise() {
        DeedBench x = new DeedBench();
        check.no("lived(0, 1, 2) without people", x.lived(0, 1, 2));
        x.person(100, 200);
        x.person(300, 400);
        x.deed(0, 3000, 7);
        x.mark(0, 0, 1);
        check.no("lived(-1, 1, 2)", x.lived(-1, 1, 2));
        check.no("lived(2, 1, 2)", x.lived(2, 1, 2));
        check.no("lived(1, 2, 1)", x.lived(1, 2, 1));
        check.no("lived(1, -1, 1)", x.lived(1, -1, 1));
        check.no("lived(1, 1, 3001)", x.lived(1, 1, 3001));
        check.same("year(0, 0)", x.year(0, 0), 300);
        check.same("year(0, 1)", x.year(0, 1), 400);
        check.yes("lived(1, 350, 350)", x.lived(1, 350, 350));
        check.same("year(0, 0)", x.year(0, 0), 350);
        check.same("year(0, 1)", x.year(0, 1), 350);
        check.yes("lived(0, 1, 2)", x.lived(0, 1, 2));
        check.same("year(0, 0)", x.year(0, 0), 350);
        check.yes("lived(1, 0, 3000)", x.lived(1, 0, 3000));
        check.same("year(0, 1)", x.year(0, 1), 3000);
        check.same("count(0)", x.count(0), 2);
    }

    private static void formulas() {
        DeedBench x = new DeedBench();
        check.same("formula(-1, 5)", x.formula(-1, 5), DeedBench.NONE);
        check.same("formula(6, 5)", x.formula(6, 5), DeedBench.NONE);
        check.same("formula(0, 3001)", x.formula(0, 3001), DeedBench.NONE);
        for (int f = 0; f < 10; f++) {
            check.same("formula " + f, x.formula(10 + f, 50 + f), f);
        }
        check.same("an 11th formula", x.formula(1, 2), DeedBench.NONE);
        check.same("count(1)", x.count(1), 10);
        check.same("count(0)", x.count(0), 0);
        check.same("count(2)", x.count(2), 0);
        x.deed(0, 3000, 1);
        x.mark(0, 1, 9);
        check.same("year(0, 0)", x.year(0, 0), 19);
        check.same("year(0, 1)", x.year(0, 1), 59);
        x.mark(0, 1, 0);
        check.same("year(0, 0)", x.year(0, 0), 19);
        check.same("year(0, 1)", x.year(0, 1), 50);
    }

    private static void seals() {
        DeedBench x = new DeedBench();
        check.same("seal(-1, 5)", x.seal(-1, 5), DeedBench.NONE);
        check.same("seal(6, 5)", x.seal(6, 5), DeedBench.NONE);
        check.same("seal(0, 3001)", x.seal(0, 3001), DeedBench.NONE);
        for (int s = 0; s < 8; s++) {
            check.same("seal " + s, x.seal(20 + s, 70 + s), s);
        }
        check.same("a 9th seal", x.seal(1, 2), DeedBench.NONE);
        check.same("count(2)", x.count(2), 8);
        check.same("count(1)", x.count(1), 0);
        x.deed(0, 3000, 1);
        x.mark(0, 2, 7);
        check.same("year(0, 0)", x.year(0, 0), 27);
        check.same("year(0, 1)", x.year(0, 1), 77);
    }

    private static void span() {
        DeedBench x = new DeedBench();
        x.deed(100, 100, 2);
        x.deed(300, 300, 1);
        x.mark(0, 3, 4);
        x.mark(1, 3, 4);
        check.no("span(-1)", x.span(-1));
        check.no("span(201)", x.span(201));
        check.same("count(4)", x.count(4), 40);
        check.same("forged()", x.forged(), 2);
        check.yes("span(200)", x.span(200));
        check.same("count(4)", x.count(4), 200);
        check.same("forged()", x.forged(), 0);
        check.yes("span(199)", x.span(199));
        check.same("forged()", x.forged(), 2);
        check.yes("span(0)", x.span(0));
        check.same("count(4)", x.count(4), 0);
        check.same("forged()", x.forged(), 2);
    }
}

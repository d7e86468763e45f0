/** Promises 18 to 21: claim, clash, court, otherwise. */
public final class ClaimsTest {
    private static final Check check = new Check("ClaimsTest");

    public static void main(String[] args) {
        claim();
        clash();
        clashOfTrueOnesAlone();
        court();
        otherwise();
        check.end();
    }

    private static void claim() {
        DeedBench x = new DeedBench();
        check.no("claim(0, 0, 1) without deeds", x.claim(0, 0, 1));
        x.deed(0, 1, 1);
        check.no("claim(1, 0, 1)", x.claim(1, 0, 1));
        check.no("claim(-1, 0, 1)", x.claim(-1, 0, 1));
        check.no("claim(0, -1, 1)", x.claim(0, -1, 1));
        check.no("claim(0, 4, 1)", x.claim(0, 4, 1));
        check.no("claim(0, 0, -1)", x.claim(0, 0, -1));
        check.no("claim(0, 0, 1024)", x.claim(0, 0, 1024));
        check.same("no claim", x.look(0, 6), DeedBench.NONE);
        check.yes("claim(0, 3, 1023)", x.claim(0, 3, 1023));
        check.same("look(0, 6)", x.look(0, 6), 3);
        check.same("look(0, 7)", x.look(0, 7), 1023);
        check.no("claim(0, 2, 2000)", x.claim(0, 2, 2000));
        check.same("a refused one changes nothing", x.look(0, 6), 3);
        check.yes("claim(0, 0, 0), anew", x.claim(0, 0, 0));
        check.same("look(0, 6)", x.look(0, 6), 0);
        check.same("look(0, 7)", x.look(0, 7), 0);
    }

    private static void clash() {
        DeedBench x = new DeedBench();
        for (int d = 0; d < 4; d++) {
            x.deed(0, 1, 1);
        }
        check.same("clash(0, 0) without claims", x.clash(0, 0), DeedBench.NONE);
        x.claim(0, 1, 7);
        x.claim(1, 1, 7);
        check.same("like houses", x.count(7), 0);
        x.claim(2, 0, 8);
        check.same("unlike parcels", x.count(7), 0);
        x.claim(3, 2, 14);
        int[][] due = {{0, 3, 6}, {1, 3, 6}, {2, 3, 8}};
        check.same("count(7)", x.count(7), 3);
        for (int i = 0; i < due.length; i++) {
            for (int what = 0; what < 3; what++) {
                check.same("clash(" + i + ", " + what + ")", x.clash(i, what), due[i][what]);
            }
        }
        check.same("clash(3, 0)", x.clash(3, 0), DeedBench.NONE);
        check.same("clash(-1, 0)", x.clash(-1, 0), DeedBench.NONE);
        check.same("clash(0, 3)", x.clash(0, 3), DeedBench.NONE);
        check.same("clash(0, -1)", x.clash(0, -1), DeedBench.NONE);
        check.same("clash(MAX, 0)", x.clash(Integer.MAX_VALUE, 0), DeedBench.NONE);
        x.claim(2, 3, 1);
        check.same("a new claim, by the lower deed", x.clash(0, 1), 2);
        check.same("count(7)", x.count(7), 4);
    }

    private static void clashOfTrueOnesAlone() {
        DeedBench x = new DeedBench();
        x.deed(0, 0, 1);
        x.deed(500, 500, 2);
        x.deed(0, 500, 2);
        for (int d = 0; d < 3; d++) {
            x.claim(d, d, 512);
        }
        check.same("count(7)", x.count(7), 3);
        x.mark(0, 4, 1);
        check.same("a forged deed clashes with none", x.count(7), 1);
        check.same("clash(0, 0)", x.clash(0, 0), 1);
        check.same("clash(0, 1)", x.clash(0, 1), 2);
        check.same("clash(0, 2)", x.clash(0, 2), 512);
    }

    private static void court() {
        DeedBench x = new DeedBench();
        check.no("court(0, 1) without deeds", x.court(0, 1));
        x.deed(0, 1, 1);
        check.no("court(-1, 1)", x.court(-1, 1));
        check.no("court(1, 1)", x.court(1, 1));
        check.no("court(0, -1)", x.court(0, -1));
        check.no("court(0, 3)", x.court(0, 3));
        for (int how = 2; how >= 0; how--) {
            check.yes("court(0, " + how + ")", x.court(0, how));
            check.same("look(0, 4)", x.look(0, 4), how);
        }
        x.court(0, 1);
        check.no("court(0, 9)", x.court(0, 9));
        check.same("a refused one changes nothing", x.look(0, 4), 1);
    }

    private static void otherwise() {
        DeedBench x = new DeedBench();
        check.same("otherwise(0) of none", x.otherwise(0), DeedBench.NONE);
        x.deed(0, 0, 1);
        x.deed(500, 500, 2);
        x.deed(0, 500, 2);
        x.deed(0, 500, 2);
        check.same("not judged", x.otherwise(0), DeedBench.NONE);
        x.court(0, 1);
        x.court(1, 1);
        x.court(2, 2);
        check.same("held for forged, but true", x.otherwise(0), 2);
        check.same("otherwise(1)", x.otherwise(1), DeedBench.NONE);
        x.mark(0, 4, 1);
        check.same("held for true, but forged", x.otherwise(0), 0);
        check.same("otherwise(1)", x.otherwise(1), 2);
        check.same("otherwise(2)", x.otherwise(2), DeedBench.NONE);
        check.same("otherwise(-1)", x.otherwise(-1), DeedBench.NONE);
        check.same("otherwise(MAX)", x.otherwise(Integer.MAX_VALUE), DeedBench.NONE);
        x.court(0, 2);
        check.same("rightly held for forged", x.otherwise(0), 2);
        x.court(2, 0);
        check.same("not judged any more", x.otherwise(0), DeedBench.NONE);
        check.same("a court changes no judgement", x.forged(), 1);
    }
}

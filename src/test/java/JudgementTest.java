/** Promises 9 to 14: agree, forged, weight, year, quarrel, sure. */
public final class JudgementTest {
    private static final Check check = new Check("JudgementTest");

    public static void main(String[] args) {
        agree();
        agreeInChains();
        handsOfOthersDontBind();
        weight();
        forgedByWeight();
        forgedByNumber();
        forgedByBits();
        years();
        yearsInChains();
        quarrel();
        quarrelInLongChains();
        sure();
        check.end();
    }

    private static void agree() {
        DeedBench x = new DeedBench();
        x.person(10, 20);
        x.deed(0, 30, 1);
        x.deed(21, 30, 1);
        check.same("agree(4)", x.agree(4), DeedBench.NONE);
        check.same("agree(7)", x.agree(7), DeedBench.NONE);
        check.same("agree(4096)", x.agree(4096), DeedBench.NONE);
        check.same("agree(MIN)", x.agree(Integer.MIN_VALUE), DeedBench.NONE);
        check.same("agree(-1)", x.agree(-1), DeedBench.NONE);
        check.same("agree(0)", x.agree(0), 1);
        check.same("agree(3)", x.agree(3), 1);
        x.mark(0, 0, 0);
        x.mark(0, 4, 1);
        check.same("ahead of one that it names", x.agree(3), 0);
        check.same("agree(1)", x.agree(1), 1);
        check.same("agree(2)", x.agree(2), 1);
        x.lived(0, 10, 21);
        check.same("in the same year", x.agree(3), 1);
    }

    private static void agreeInChains() {
        DeedBench x = new DeedBench();
        x.span(10);
        x.deed(0, 0, 1);
        x.deed(0, 100, 1);
        x.deed(20, 20, 1);
        x.deed(21, 21, 1);
        x.mark(0, 3, 0);
        x.mark(1, 3, 0);
        x.mark(1, 3, 1);
        x.mark(2, 3, 1);
        x.mark(3, 3, 1);
        check.same("two spans in a row", x.agree(7), 1);
        check.same("a year more", x.agree(11), 0);
        check.same("the chain's middle left out", x.agree(9), 1);
        check.same("forged()", x.forged(), 1);
        check.same("quarrel()", x.quarrel(), 11);
    }

    private static void handsOfOthersDontBind() {
        DeedBench x = new DeedBench();
        x.deed(0, 0, 1);
        x.deed(1000, 1000, 1);
        x.mark(0, 3, 0);
        x.mark(1, 3, 1);
        check.same("unlike hands", x.agree(3), 1);
        x.mark(1, 3, 0);
        check.same("one like hand is enough", x.agree(3), 0);
    }

    private static void weight() {
        DeedBench x = new DeedBench();
        check.same("weight(0)", x.weight(0), 0);
        check.same("weight(1) of none", x.weight(1), DeedBench.NONE);
        for (int d = 0; d < 12; d++) {
            x.deed(0, 3000, d == 11 ? 99 : d + 1);
        }
        check.same("weight(1)", x.weight(1), 1);
        check.same("weight(2052)", x.weight(2052), 102);
        check.same("weight(4095)", x.weight(4095), 165);
        check.same("weight(4096)", x.weight(4096), DeedBench.NONE);
        check.same("weight(-1)", x.weight(-1), DeedBench.NONE);
        check.same("weight(MIN)", x.weight(Integer.MIN_VALUE), DeedBench.NONE);
    }

    /** Deeds of the first half and of the second that can't be together, by one hand. */
    private static DeedBench twoCamps(int[] early, int[] late) {
        DeedBench x = new DeedBench();
        for (int w : early) {
            x.mark(x.deed(0, 0, w), 3, 0);
        }
        for (int w : late) {
            x.mark(x.deed(1000, 1000, w), 3, 0);
        }
        return x;
    }

    private static void forgedByWeight() {
        check.same("one heavy against three light", twoCamps(new int[] {1, 1, 1}, new int[] {4}).forged(), 7);
        check.same("three heavier than one", twoCamps(new int[] {2, 1, 2}, new int[] {4}).forged(), 8);
        check.same("the lighter is higher", twoCamps(new int[] {9}, new int[] {8}).forged(), 2);
    }

    private static void forgedByNumber() {
        check.same("like weight, the fewer are higher", twoCamps(new int[] {1, 2}, new int[] {3}).forged(), 4);
        check.same("like weight, the fewer are lower", twoCamps(new int[] {5}, new int[] {1, 1, 3}).forged(), 1);
    }

    private static void forgedByBits() {
        check.same("like weight and number", twoCamps(new int[] {3, 3}, new int[] {4, 2}).forged(), 3);
        DeedBench x = new DeedBench();
        x.deed(9, 9, 1);
        x.deed(5, 5, 1);
        x.deed(0, 0, 1);
        x.mark(1, 4, 0);
        x.mark(2, 4, 1);
        check.same("the middle alone leaves the outer ones", x.forged(), 2);
        x.mark(2, 4, 0);
        check.same("all three against each other", x.forged(), 3);
        check.same("count(5)", x.count(5), 2);
    }

    private static void years() {
        DeedBench x = new DeedBench();
        x.deed(100, 200, 3);
        x.deed(150, 260, 3);
        check.same("year(-1, 0)", x.year(-1, 0), DeedBench.NONE);
        check.same("year(2, 0)", x.year(2, 0), DeedBench.NONE);
        check.same("year(0, -1)", x.year(0, -1), DeedBench.NONE);
        check.same("year(0, 2)", x.year(0, 2), DeedBench.NONE);
        x.mark(0, 4, 1);
        check.same("the namer is not ahead", x.year(0, 0), 150);
        check.same("the named is not behind", x.year(1, 1), 200);
        x.deed(0, 120, 9);
        x.mark(2, 3, 5);
        x.mark(1, 3, 5);
        check.same("a hand's span", x.year(1, 1), 160);
        check.same("a hand's span back", x.year(2, 0), 110);
        check.same("what doesn't bind", x.year(0, 1), 200);
        x.agree(1);
        x.quarrel();
        check.same("other questions leave it", x.year(1, 1), 160);
        x.span(0);
        check.same("forged()", x.forged(), 2);
        check.same("year of a forged one, least", x.year(1, 0), DeedBench.NONE);
        check.same("year of a forged one, greatest", x.year(1, 1), DeedBench.NONE);
        check.same("a forged one binds no more", x.year(0, 0), 100);
        check.same("a forged one's hand binds no more", x.year(2, 1), 120);
    }

    /** Each deed names the one ahead of it in the order, so years go along the whole row. */
    private static DeedBench chain(int[] order, int from, int to) {
        DeedBench x = new DeedBench();
        for (int d = 0; d < order.length; d++) {
            boolean isFirst = d == order[0];
            boolean isLast = d == order[order.length - 1];
            x.deed(isFirst ? from : 0, isLast ? to : 3000, 1);
        }
        for (int i = 1; i < order.length; i++) {
            x.mark(order[i], 4, order[i - 1]);
        }
        return x;
    }

    private static void yearsInChains() {
        int[] up = {0, 1, 2, 3, 4, 5, 6, 7, 8, 9, 10, 11};
        int[] down = {11, 10, 9, 8, 7, 6, 5, 4, 3, 2, 1, 0};
        int[] mixed = {6, 0, 11, 3, 8, 1, 10, 5, 2, 9, 4, 7};
        for (int[] order : new int[][] {up, down, mixed}) {
            DeedBench x = chain(order, 700, 900);
            for (int d = 0; d < 12; d++) {
                check.same("least of " + d + " in a row", x.year(d, 0), 700);
                check.same("greatest of " + d + " in a row", x.year(d, 1), 900);
            }
        }
        DeedBench y = new DeedBench();
        y.span(5);
        int[] byHands = {6, 0, 4, 3, 8, 1, 7, 5, 2};
        for (int d = 0; d < 9; d++) {
            y.deed(d == 6 ? 1000 : 0, d == 6 ? 1000 : 3000, 1);
        }
        for (int hand = 0; hand < 8; hand++) {
            y.mark(byHands[hand], 3, hand);
            y.mark(byHands[hand + 1], 3, hand);
        }
        for (int i = 0; i < 9; i++) {
            check.same("least by " + i + " hands", y.year(byHands[i], 0), 1000 - 5 * i);
            check.same("greatest by " + i + " hands", y.year(byHands[i], 1), 1000 + 5 * i);
        }
    }

    private static void quarrelInLongChains() {
        int[] mixed = {6, 0, 11, 3, 8, 1, 10, 5, 2, 9, 4, 7};
        DeedBench x = chain(mixed, 900, 700);
        check.same("all twelve", x.quarrel(), 4095);
        check.same("any one must go", x.forged(), 1);
        check.same("eleven agree", x.agree(4095 & ~(1 << 9)), 1);
        x.mark(7, 4, 8);
        check.same("a shorter way", x.quarrel(), 1 << 6 | 1 | 1 << 11 | 1 << 3 | 1 << 8 | 1 << 7);
        x.mark(8, 4, 11);
        check.same("a still shorter way", x.quarrel(), 1 << 6 | 1 | 1 << 11 | 1 << 8 | 1 << 7);
        x.mark(8, 4, 1);
        x.mark(1, 4, 0);
        check.same("one as short, less as bits", x.quarrel(), 1 << 6 | 1 | 1 << 1 | 1 << 8 | 1 << 7);
    }

    private static void quarrel() {
        DeedBench x = new DeedBench();
        x.person(0, 10);
        x.deed(0, 0, 1);
        x.deed(50, 50, 1);
        x.deed(0, 100, 1);
        x.deed(50, 50, 1);
        check.same("all agree", x.quarrel(), 0);
        x.mark(0, 4, 2);
        x.mark(2, 4, 3);
        check.same("three in a row", x.quarrel(), 13);
        x.mark(2, 4, 1);
        check.same("three in a row, less as bits", x.quarrel(), 7);
        x.mark(0, 4, 3);
        check.same("fewer before less", x.quarrel(), 9);
        x.mark(0, 4, 1);
        check.same("two, less as bits", x.quarrel(), 3);
        x.mark(3, 0, 0);
        check.same("one by itself", x.quarrel(), 8);
        check.same("forged()", x.forged(), 9);
        x.lived(0, 0, 3000);
        check.same("two again", x.quarrel(), 3);
    }

    private static void sure() {
        DeedBench x = new DeedBench();
        x.person(0, 3000);
        x.person(0, 3000);
        x.deed(100, 110, 5);
        x.deed(130, 140, 5);
        check.same("sure(0, 0) without deeds", x.sure(0, 0), DeedBench.NONE);
        x.mark(0, 0, 0);
        check.same("no year is sure", x.sure(0, 0), DeedBench.NONE);
        check.same("no year is sure, to", x.sure(0, 1), DeedBench.NONE);
        x.mark(1, 0, 0);
        check.same("sure(0, 0)", x.sure(0, 0), 110);
        check.same("sure(0, 1)", x.sure(0, 1), 130);
        check.same("sure(1, 0)", x.sure(1, 0), DeedBench.NONE);
        check.same("sure(2, 0)", x.sure(2, 0), DeedBench.NONE);
        check.same("sure(-1, 0)", x.sure(-1, 0), DeedBench.NONE);
        check.same("sure(0, 2)", x.sure(0, 2), DeedBench.NONE);
        check.same("sure(0, -1)", x.sure(0, -1), DeedBench.NONE);
        x.deed(77, 77, 5);
        x.mark(2, 0, 1);
        check.same("one year is sure, from", x.sure(1, 0), 77);
        check.same("one year is sure, to", x.sure(1, 1), 77);
        x.mark(0, 4, 1);
        check.same("forged()", x.forged(), 1);
        check.same("a forged deed proves nothing", x.sure(0, 0), DeedBench.NONE);
        DeedBench y = new DeedBench();
        y.person(0, 3000);
        y.deed(3000, 3000, 1);
        y.deed(0, 0, 1);
        y.mark(0, 0, 0);
        check.same("the last year, from", y.sure(0, 0), 3000);
        check.same("the last year, to", y.sure(0, 1), 3000);
        y.mark(1, 0, 0);
        check.same("from the first year", y.sure(0, 0), 0);
        check.same("to the last year", y.sure(0, 1), 3000);
    }
}

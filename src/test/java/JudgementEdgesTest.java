/** The edges of promises 9 to 14 and of the terms behind them, a run for each sentence. */
public final class JudgementEdgesTest {
    private static final Check check = new Check("JudgementEdgesTest");
    private static final Runs runs = new Runs(check);

    /** Twelve that can have no YEAR, for the greatest sets that there are. */
    private static final String NO_YEARS = twelveWithoutYears();

    public static void main(String[] args) {
        setsOfDeeds("9: agree", "agree", "1", "1");
        setsOfDeeds("11: weight", "weight", "99", "1188");
        ownYears();
        spansInUse("9: a FORMULA", "formula", 1);
        spansInUse("9: a SEAL", "seal", 2);
        handsApart();
        aheadOfNamed();
        onlyOfTheSet();
        forged();
        forgedOfLikeOnes();
        weight();
        yearsThatAreNone();
        yearsAtTheEdges();
        quarrel();
        quarrelOfLikeOnes();
        sureThatIsNone();
        sureAtTheEdges();
        check.end();
    }

    private static String twelveWithoutYears() {
        StringBuilder rows = new StringBuilder("person(0, 4); 12x deed(5, 9, 99); ");
        for (int d = 0; d < 12; d++) {
            rows.append("mark(").append(d).append(", 0, 0); ");
        }
        return rows.toString();
    }

    private static void setsOfDeeds(String promise, String name, String one, String twelve) {
        runs.run(promise + ": NONE: no such DEEDS, none is there", fill("""
            NAME(1) = NONE; NAME(2) = NONE; NAME(2048) = NONE; NAME(4095) = NONE; NAME(4096) = NONE
            NAME(-1) = NONE; NAME(MIN) = NONE; NAME(MAX) = NONE
            """, name));
        runs.run(promise + ": one DEED", "deed(0, 9, 99); " + fill("NAME(1) = ", name) + one);
        runs.run(promise + ": NONE: no such DEEDS beside one", "deed(0, 9, 99); " + fill("""
            NAME(2) = NONE; NAME(3) = NONE; NAME(2048) = NONE; NAME(2049) = NONE; NAME(4096) = NONE; NAME(4097) = NONE
            NAME(-1) = NONE; NAME(-2) = NONE; NAME(MIN) = NONE; NAME(MAX) = NONE; NAME(-2147483647) = NONE
            """, name));
        runs.run(promise + ": all of 12", "12x deed(0, 9, 99); " + fill("NAME(4095) = ", name) + twelve);
        runs.run(promise + ": the last of 12", "12x deed(0, 9, 99); " + fill("NAME(2048) = ", name) + one);
        runs.run(promise + ": NONE: no such DEEDS beside 12", "12x deed(0, 9, 99); " + fill("""
            NAME(4096) = NONE; NAME(4097) = NONE; NAME(8191) = NONE; NAME(65536) = NONE; NAME(1073741824) = NONE
            NAME(-1) = NONE; NAME(-4096) = NONE; NAME(MIN) = NONE; NAME(MAX) = NONE
            """, name));
    }

    private static String fill(String rows, String name) {
        return rows.replace("NAME", name);
    }

    private static void ownYears() {
        runs.run("9: no DEEDS AGREE", "agree(0) = 1");
        runs.run("9: none of DEEDS that don't AGREE", NO_YEARS + "agree(0) = 1; agree(1) = 0; agree(4095) = 0");
        runs.run("9: a WITNESS who lived till the first YEAR", """
            person(0, 100); deed(100, 200, 1); mark(0, 0, 0); agree(1) = 1; lived(0, 0, 99); agree(1) = 0
            """);
        runs.run("9: a WITNESS who lived from the last YEAR on", """
            person(200, 300); deed(100, 200, 1); mark(0, 0, 0); agree(1) = 1; lived(0, 201, 300); agree(1) = 0
            """);
        runs.run("9: two WITNESSES who lived in one YEAR both", """
            person(0, 150); person(150, 300); deed(100, 200, 1); mark(0, 0, 0); mark(0, 0, 1); agree(1) = 1
            lived(1, 151, 300); agree(1) = 0; lived(0, 0, 151); agree(1) = 1
            """);
        runs.run("9: a WITNESS, a FORMULA and a SEAL with one YEAR left", """
            person(0, 150); formula(150, 160); seal(140, 150); deed(100, 200, 1)
            mark(0, 0, 0); mark(0, 1, 0); mark(0, 2, 0); agree(1) = 1; year(0, 0) = 150; year(0, 1) = 150
            lived(0, 0, 149); agree(1) = 0
            """);
        runs.run("9: YEARS 0 and 3000 are YEARS like others", """
            person(0, 0); person(3000, 3000); 2x deed(0, 3000, 1); mark(0, 0, 0); mark(1, 0, 1); agree(3) = 1
            mark(0, 4, 1); agree(3) = 0; agree(1) = 1; agree(2) = 1
            """);
    }

    private static void spansInUse(String what, String name, int kind) {
        runs.run(what + " in use till the first YEAR, from the last one on, and a YEAR less", """
            NAME(0, 100); NAME(0, 99); NAME(200, 300); NAME(201, 300); 4x deed(100, 200, 1)
            mark(0, KIND, 0); mark(1, KIND, 1); mark(2, KIND, 2); mark(3, KIND, 3)
            agree(1) = 1; agree(2) = 0; agree(4) = 1; agree(8) = 0; agree(5) = 1; agree(15) = 0
            """.replace("NAME", name).replace("KIND", String.valueOf(kind)));
    }

    private static void handsApart() {
        String four = "deed(100, 100, 1); deed(140, 140, 1); deed(141, 141, 1); deed(60, 60, 1); deed(59, 59, 1); "
            + "mark(0, 3, 2); mark(1, 3, 2); mark(2, 3, 2); mark(3, 3, 2); mark(4, 3, 2); ";
        runs.run("9: one HAND, W apart", four + "agree(3) = 1; agree(9) = 1");
        runs.run("9: one HAND, more than W apart", four + "agree(5) = 0; agree(17) = 0");
        runs.run("9: one HAND, all of a set", four + "agree(11) = 0; agree(6) = 1; agree(24) = 1; agree(31) = 0");
        runs.run("9: W 0: the same YEAR", "span(0); deed(5, 6, 1); deed(6, 7, 1); deed(7, 8, 1); "
            + "mark(0, 3, 0); mark(1, 3, 0); mark(2, 3, 0); agree(3) = 1; agree(6) = 1; agree(5) = 0; agree(7) = 0");
        runs.run("9: one HAND of several is enough", """
            deed(0, 0, 1); deed(41, 41, 1); mark(0, 3, 0); mark(0, 3, 1); mark(1, 3, 2); agree(3) = 1
            mark(1, 3, 1); agree(3) = 0
            """);
        runs.run("9: two HANDS in common bind no more than one", """
            deed(0, 0, 1); deed(40, 40, 1); mark(0, 3, 0); mark(0, 3, 7); mark(1, 3, 0); mark(1, 3, 7); agree(3) = 1
            """);
        runs.run("9: W at the last YEAR", """
            span(200); deed(3000, 3000, 1); deed(2800, 2800, 1); deed(2799, 2799, 1)
            mark(0, 3, 0); mark(1, 3, 0); mark(2, 3, 0); agree(3) = 1; agree(5) = 0
            """);
    }

    private static void aheadOfNamed() {
        String three = "deed(100, 100, 1); deed(100, 100, 1); deed(101, 101, 1); deed(99, 99, 1); ";
        runs.run("9: one YEAR with the one that it names", three + "mark(0, 4, 1); agree(3) = 1");
        runs.run("9: a YEAR ahead of the one that it names",
            three + "mark(0, 4, 2); agree(5) = 0; agree(1) = 1; agree(4) = 1");
        runs.run("9: a YEAR behind the one that it names", three + "mark(0, 4, 3); agree(9) = 1");
        runs.run("9: two that name each other have one YEAR", """
            deed(5, 9, 1); deed(9, 12, 1); deed(10, 12, 1); mark(0, 4, 1); mark(1, 4, 0); mark(0, 4, 2); mark(2, 4, 0)
            agree(3) = 1; year(0, 0) = NONE; agree(5) = 0; agree(6) = 1
            """);
        runs.run("9: names and a HAND both bind", """
            span(10); deed(0, 0, 1); deed(10, 20, 1); mark(1, 4, 0); mark(1, 3, 0); mark(0, 3, 0); agree(3) = 1
            year(1, 0) = 10; year(1, 1) = 10; span(9); agree(3) = 0
            """);
        runs.run("9: one HAND does not let it be ahead of the one that it names", """
            span(10); deed(0, 4, 1); deed(5, 9, 1); mark(0, 3, 0); mark(1, 3, 0); agree(3) = 1; mark(0, 4, 1)
            agree(3) = 0
            """);
        runs.run("12: one HAND with the one that it names, not ahead of it, W behind it at most", """
            span(10); deed(0, 50, 1); deed(5, 7, 1); mark(0, 3, 0); mark(1, 3, 0); year(0, 0) = 0; year(0, 1) = 17
            mark(0, 4, 1); year(0, 0) = 5; year(0, 1) = 17; year(1, 0) = 5; year(1, 1) = 7
            """);
        runs.run("12: one HAND with the one that names it, not behind it, W ahead of it at most", """
            span(10); deed(0, 50, 1); deed(25, 27, 1); mark(0, 3, 0); mark(1, 3, 0); year(0, 0) = 15; year(0, 1) = 37
            mark(1, 4, 0); year(0, 0) = 15; year(0, 1) = 27; year(1, 0) = 25; year(1, 1) = 27
            """);
    }

    private static void onlyOfTheSet() {
        runs.run("9: a named one that is not of the set", """
            deed(0, 0, 1); deed(5, 5, 1); deed(0, 9, 1); mark(0, 4, 1); agree(1) = 1; agree(5) = 1; agree(3) = 0
            agree(7) = 0
            """);
        runs.run("9: one of the HAND that is not of the set", """
            deed(0, 0, 1); deed(41, 41, 1); deed(20, 20, 1); mark(0, 3, 0); mark(1, 3, 0); mark(2, 3, 0)
            agree(5) = 1; agree(6) = 1; agree(3) = 0; agree(7) = 0
            """);
        runs.run("9: one between two that is not of the set", """
            deed(0, 0, 1); deed(0, 9, 1); deed(5, 5, 1); mark(0, 4, 1); mark(1, 4, 2); agree(7) = 0; agree(5) = 1
            """);
        runs.run("9: FORGED ones of the set are asked, too", """
            deed(0, 0, 1); deed(5, 5, 2); mark(0, 4, 1); forged() = 1; agree(1) = 1; agree(2) = 1; agree(3) = 0
            """);
    }

    private static void forged() {
        runs.run("10: 0 without DEEDS", "forged() = 0; count(5) = 0");
        runs.run("10: 0 if all AGREE", "12x deed(0, 9, 1); forged() = 0; count(5) = 0");
        runs.run("10: all of 12", NO_YEARS + "forged() = 4095; count(5) = 12; weight(4095) = 1188; quarrel() = 1");
        runs.run("10: all but the last of 12", """
            span(0); deed(1, 1, 1); deed(2, 2, 1); deed(3, 3, 1); deed(4, 4, 1); deed(5, 5, 1); deed(6, 6, 1)
            deed(7, 7, 1); deed(8, 8, 1); deed(9, 9, 1); deed(10, 10, 1); deed(11, 11, 1); deed(12, 12, 1)
            mark(0, 3, 0); mark(1, 3, 0); mark(2, 3, 0); mark(3, 3, 0); mark(4, 3, 0); mark(5, 3, 0); mark(6, 3, 0)
            mark(7, 3, 0); mark(8, 3, 0); mark(9, 3, 0); mark(10, 3, 0); mark(11, 3, 0)
            forged() = 2047; count(5) = 11; year(11, 0) = 12
            """);
        runs.run("10: the first and the last of 12 alone", """
            person(0, 0); deed(1, 1, 1); 10x deed(0, 9, 1); deed(1, 1, 1); mark(0, 0, 0); mark(11, 0, 0)
            forged() = 2049; count(5) = 2
            """);
        runs.run("10: one without YEARS of its own is FORGED, whatever its WEIGHT", """
            person(0, 4); deed(5, 9, 99); deed(5, 9, 1); mark(0, 0, 0); mark(0, 4, 1); mark(1, 4, 0)
            forged() = 1; year(1, 0) = 5
            """);
    }

    private static void forgedOfLikeOnes() {
        runs.run("10: of least WEIGHT, a single one less", """
            deed(0, 0, 99); deed(1, 1, 98); mark(0, 4, 1); forged() = 2
            """);
        runs.run("10: of least WEIGHT, not of fewest DEEDS", """
            deed(0, 0, 1); deed(0, 0, 1); deed(1, 1, 3); mark(0, 4, 2); mark(1, 4, 2); forged() = 3
            """);
        runs.run("10: of like WEIGHT the fewest DEEDS, not the least as bits", """
            deed(0, 0, 1); deed(0, 0, 1); deed(1, 1, 2); mark(0, 4, 2); mark(1, 4, 2); forged() = 4
            """);
        runs.run("10: of as many DEEDS the least, as bits", """
            deed(0, 0, 2); deed(1, 1, 2); mark(0, 4, 1); forged() = 1
            """);
        runs.run("10: the least as bits, by the highest DEED first", """
            deed(0, 0, 3); deed(9, 9, 3); deed(9, 9, 3); deed(0, 0, 3); mark(0, 4, 1); mark(0, 4, 2); mark(3, 4, 1)
            mark(3, 4, 2); forged() = 6
            """);
        runs.run("10: of like WEIGHT the fewest DEEDS, though the others are less as bits", """
            deed(0, 0, 3); 3x deed(9, 9, 2); deed(0, 9, 1); deed(0, 0, 3)
            mark(0, 4, 1); mark(0, 4, 2); mark(0, 4, 3); mark(5, 4, 1); mark(5, 4, 2); mark(5, 4, 3); forged() = 33
            """);
        runs.run("10: two pairs, the lower of each", """
            deed(0, 0, 7); deed(1, 1, 7); deed(0, 0, 7); deed(1, 1, 7); mark(0, 4, 1); mark(2, 4, 3); forged() = 5
            """);
        runs.run("10: the lightest, though it is far from the one that has no YEAR left", """
            deed(0, 0, 1); 3x deed(0, 9, 5); deed(5, 9, 5); mark(0, 4, 1); mark(1, 4, 2); mark(2, 4, 1); mark(1, 4, 3)
            mark(3, 4, 4); forged() = 1; quarrel() = 27
            """);
        runs.run("10: the lightest, though it is far, with HANDS in place of names", """
            span(0); deed(0, 0, 1); 3x deed(0, 9, 5); deed(5, 9, 5); mark(0, 3, 0); mark(1, 3, 0); mark(1, 3, 1)
            mark(2, 3, 1); mark(1, 3, 2); mark(3, 3, 2); mark(3, 3, 3); mark(4, 3, 3); forged() = 1; quarrel() = 27
            """);
        runs.run("10: the greatest WEIGHTS", """
            deed(0, 0, 99); deed(1, 1, 99); deed(1, 1, 99); mark(0, 4, 1); mark(0, 4, 2); forged() = 1; weight(1) = 99
            """);
    }

    private static void weight() {
        runs.run("11: 0 for no DEEDS", "weight(0) = 0; deed(0, 9, 99); weight(0) = 0");
        runs.run("11: each has its own",
            "deed(0, 9, 1); deed(0, 9, 50); deed(0, 9, 99); weight(1) = 1; weight(2) = 50; "
            + "weight(4) = 99; weight(5) = 100; weight(7) = 150");
        runs.run("11: FORGED ones weigh as TRUE ones", NO_YEARS + "weight(4095) = 1188; weight(2049) = 198");
    }

    private static void yearsThatAreNone() {
        String two = "deed(3, 4, 5); deed(6, 7, 5); ";
        runs.run("12: NONE: no such DEED", two + """
            year(-1, 0) = NONE; year(2, 0) = NONE; year(2, 1) = NONE; year(11, 0) = NONE; year(12, 0) = NONE
            year(32, 0) = NONE; year(MIN, 0) = NONE; year(MAX, 1) = NONE; year(0, 0) = 3; year(1, 1) = 7
            """);
        runs.run("12: NONE: no such what", two + """
            year(0, -1) = NONE; year(0, 2) = NONE; year(0, MIN) = NONE; year(0, MAX) = NONE; year(1, 2) = NONE
            """);
        runs.run("12: NONE: it is FORGED", two + """
            year(0, 0) = 3; mark(0, 4, 1); forged() = 1; year(0, 0) = NONE; year(0, 1) = NONE; year(1, 0) = 6
            year(1, 1) = 7
            """);
        runs.run("12: NONE: all 12 are FORGED", NO_YEARS + """
            year(0, 0) = NONE; year(0, 1) = NONE; year(11, 0) = NONE; year(11, 1) = NONE; lived(0, 9, 9)
            year(0, 0) = 9; year(11, 1) = 9
            """);
        runs.run("12: the last of 12, and the next",
            "12x deed(8, 9, 1); year(11, 0) = 8; year(11, 1) = 9; year(12, 0) = NONE");
    }

    private static void yearsAtTheEdges() {
        runs.run("12: from YEAR 0 to YEAR 3000", "deed(0, 3000, 1); year(0, 0) = 0; year(0, 1) = 3000");
        runs.run("12: W leads no YEAR below 0 or above 3000", """
            span(200); deed(0, 100, 1); deed(0, 3000, 1); deed(2900, 3000, 1); deed(0, 3000, 1)
            mark(0, 3, 0); mark(1, 3, 0); mark(2, 3, 1); mark(3, 3, 1)
            year(1, 0) = 0; year(1, 1) = 300; year(3, 0) = 2700; year(3, 1) = 3000
            """);
        runs.run("12: in any way in which all TRUE ones AGREE", """
            span(10); deed(50, 60, 1); deed(0, 99, 1); deed(0, 99, 1); mark(0, 3, 0); mark(1, 3, 0); mark(1, 3, 1)
            mark(2, 3, 1); year(1, 0) = 40; year(1, 1) = 70; year(2, 0) = 30; year(2, 1) = 80; year(0, 0) = 50
            year(0, 1) = 60
            """);
        runs.run("12: FORGED ones don't bind TRUE ones", """
            deed(0, 0, 1); deed(500, 500, 9); deed(0, 900, 5); mark(0, 4, 1); mark(0, 3, 0); mark(2, 3, 0)
            mark(0, 4, 2); forged() = 1; year(2, 0) = 0; year(2, 1) = 900
            """);
        runs.run("12: the YEARS beside those FORGED ones, not beside others of like WEIGHT", """
            deed(0, 0, 1); deed(5, 9, 1); deed(6, 6, 1); mark(0, 4, 1); mark(2, 4, 1); forged() = 1; year(1, 0) = 5
            year(1, 1) = 6
            """);
        runs.run("12: one YEAR alone", "deed(7, 7, 1); year(0, 0) = 7; year(0, 1) = 7");
    }

    private static void quarrel() {
        runs.run("13: 0 without DEEDS", "quarrel() = 0");
        runs.run("13: 0: all AGREE", "12x deed(0, 9, 1); quarrel() = 0");
        runs.run("13: one alone, the first", "person(0, 0); 12x deed(1, 9, 1); mark(0, 0, 0); quarrel() = 1");
        runs.run("13: one alone, the last of 12", "person(0, 0); 12x deed(1, 9, 1); mark(11, 0, 0); quarrel() = 2048");
        runs.run("13: all of 12", """
            deed(0, 8, 1); 10x deed(0, 3000, 1); deed(9, 9, 1); mark(0, 4, 1); mark(1, 4, 2); mark(2, 4, 3)
            mark(3, 4, 4); mark(4, 4, 5); mark(5, 4, 6); mark(6, 4, 7); mark(7, 4, 8); mark(8, 4, 9); mark(9, 4, 10)
            mark(10, 4, 11)
            quarrel() = 4095; forged() = 1; agree(4094) = 1
            """);
        runs.run("13: all of 12 by names, at one YEAR more they AGREE", """
            deed(0, 9, 1); 10x deed(0, 3000, 1); deed(9, 9, 1); mark(0, 4, 1); mark(1, 4, 2); mark(2, 4, 3)
            mark(3, 4, 4); mark(4, 4, 5); mark(5, 4, 6); mark(6, 4, 7); mark(7, 4, 8); mark(8, 4, 9); mark(9, 4, 10)
            mark(10, 4, 11)
            quarrel() = 0; forged() = 0; year(5, 0) = 9; year(5, 1) = 9
            """);
    }

    private static void quarrelOfLikeOnes() {
        runs.run("13: fewest DEEDS, not the least as bits", """
            deed(0, 0, 1); deed(0, 9, 1); deed(5, 5, 1); deed(9, 9, 1); deed(8, 8, 1)
            mark(0, 4, 1); mark(1, 4, 2); quarrel() = 7; mark(4, 4, 3); quarrel() = 24
            """);
        runs.run("13: fewest DEEDS, not of least WEIGHT", """
            person(0, 0); deed(0, 0, 1); deed(1, 1, 1); deed(5, 5, 99); mark(0, 4, 1); quarrel() = 3
            mark(2, 0, 0); quarrel() = 4
            """);
        runs.run("13: of as many the least, as bits", """
            deed(0, 0, 1); deed(9, 9, 1); deed(0, 0, 1); deed(9, 9, 1); mark(2, 4, 3); quarrel() = 12
            mark(0, 4, 3); quarrel() = 9; mark(2, 4, 1); quarrel() = 6; mark(0, 4, 1); quarrel() = 3
            """);
        runs.run("13: of as many the least, as bits, though a lower DEED is in another", """
            deed(9, 9, 1); deed(9, 9, 1); deed(0, 0, 1); deed(0, 0, 1); mark(3, 4, 0); quarrel() = 9
            mark(2, 4, 1); quarrel() = 6
            """);
        runs.run("13: of three each the least, as bits", """
            deed(0, 4, 1); deed(0, 99, 1); deed(0, 99, 1); deed(5, 5, 1); deed(5, 5, 1)
            mark(0, 4, 2); mark(2, 4, 4); quarrel() = 21; mark(2, 4, 3); quarrel() = 13; mark(0, 4, 1); quarrel() = 13
            mark(1, 4, 4); quarrel() = 13; mark(1, 4, 3); quarrel() = 11
            """);
        runs.run("13: all DEEDS are asked, FORGED ones too", """
            person(0, 0); deed(1, 1, 1); deed(0, 9, 1); mark(0, 0, 0); forged() = 1; quarrel() = 1; agree(2) = 1
            """);
    }

    private static void sureThatIsNone() {
        String one = "person(0, 3000); person(0, 3000); deed(7, 7, 1); mark(0, 0, 0); ";
        runs.run("14: NONE: no such PERSON", one + """
            sure(-1, 0) = NONE; sure(2, 0) = NONE; sure(2, 1) = NONE; sure(19, 0) = NONE; sure(20, 0) = NONE
            sure(32, 0) = NONE; sure(MIN, 0) = NONE; sure(MAX, 1) = NONE; sure(0, 0) = 7
            """);
        runs.run("14: NONE: no such what", one + """
            sure(0, -1) = NONE; sure(0, 2) = NONE; sure(0, MIN) = NONE; sure(0, MAX) = NONE; sure(0, 1) = 7
            """);
        runs.run("14: NONE: nothing, no DEED that they witnessed", one + "sure(1, 0) = NONE; sure(1, 1) = NONE");
        runs.run("14: NONE: nothing, no TRUE one that they witnessed", one + """
            deed(8, 8, 9); mark(0, 4, 1); forged() = 1; sure(0, 0) = NONE; sure(0, 1) = NONE
            """);
        runs.run("14: the last PERSON of 20", """
            20x person(0, 3000); deed(7, 7, 1); mark(0, 0, 19); sure(19, 0) = 7; sure(19, 1) = 7; sure(18, 0) = NONE
            sure(20, 0) = NONE
            """);
        runs.run("14: a FORMULA, a SEAL, a HAND or a DEED with their number is no WITNESS", """
            2x person(0, 3000); 2x formula(0, 3000); 2x seal(0, 3000); deed(7, 7, 1); deed(7, 7, 1); mark(0, 1, 1)
            mark(0, 2, 1); mark(0, 3, 1); mark(0, 4, 1); sure(1, 0) = NONE; sure(1, 1) = NONE
            """);
    }

    private static void sureAtTheEdges() {
        String two = "person(0, 3000); deed(100, 110, 1); mark(0, 0, 0); ";
        runs.run("14: nothing: it would end a YEAR ahead of its beginning", two + """
            deed(109, 120, 1); mark(1, 0, 0); sure(0, 0) = NONE; sure(0, 1) = NONE
            """);
        runs.run("14: it ends where it begins",
            two + "deed(110, 120, 1); mark(1, 0, 0); sure(0, 0) = 110; sure(0, 1) = 110");
        runs.run("14: it ends a YEAR behind its beginning", two + """
            deed(111, 120, 1); mark(1, 0, 0); sure(0, 0) = 110; sure(0, 1) = 111
            """);
        runs.run("14: YEARS 0 and 3000", """
            person(0, 3000); deed(0, 0, 1); mark(0, 0, 0); sure(0, 0) = 0; sure(0, 1) = 0
            deed(3000, 3000, 1); mark(1, 0, 0); sure(0, 0) = 0; sure(0, 1) = 3000
            """);
        runs.run("14: YEAR 3000 alone",
            "person(0, 3000); deed(3000, 3000, 1); mark(0, 0, 0); sure(0, 0) = 3000; sure(0, 1) = 3000");
        runs.run("14: the YEARS of TRUE ones, not those in which they are said to be written", """
            person(50, 60); deed(0, 50, 1); deed(60, 90, 1); mark(0, 0, 0); mark(1, 0, 0); sure(0, 0) = 50
            sure(0, 1) = 60; lived(0, 50, 70); sure(0, 1) = 60; deed(65, 65, 9); mark(1, 4, 2); sure(0, 1) = 65
            """);
        runs.run("14: it begins by the YEARS that TRUE ones leave one another", """
            person(50, 90); deed(50, 80, 1); deed(85, 85, 1); mark(0, 0, 0); mark(1, 0, 0); sure(0, 0) = 80
            deed(70, 70, 9); mark(2, 4, 0); year(0, 1) = 70; sure(0, 0) = 70; sure(0, 1) = 85
            """);
        runs.run("14: it begins with the life of a WITNESS of another", """
            person(0, 3000); person(0, 30); deed(0, 40, 1); deed(35, 35, 1); mark(0, 0, 0); mark(1, 0, 0)
            sure(0, 0) = 35; mark(0, 0, 1); sure(0, 0) = 30; sure(0, 1) = 35; sure(1, 0) = NONE
            """);
        runs.run("14: DEEDS 0 and 11", """
            person(0, 3000); 11x deed(10, 20, 1); deed(30, 40, 1); mark(0, 0, 0); mark(11, 0, 0); mark(5, 0, 0)
            sure(0, 0) = 20; sure(0, 1) = 30
            """);
    }
}

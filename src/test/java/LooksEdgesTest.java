/** The edges of promises 22 and 23 and of the terms behind them, a run for each sentence. */
public final class LooksEdgesTest {
    private static final Check check = new Check("LooksEdgesTest");
    private static final Runs runs = new Runs(check);

    public static void main(String[] args) {
        noSuchLook();
        lookNumbers();
        noOwnYears();
        ownYearsWithoutOthers();
        noSuchCount();
        countOfSpans();
        countOfOthers();
        check.end();
    }

    private static void noSuchLook() {
        String one = "deed(4, 5, 6); ";
        runs.run("22: NONE for others: no such what", one + """
            look(0, -1) = NONE; look(0, 10) = NONE; look(0, 11) = NONE; look(0, MIN) = NONE; look(0, MAX) = NONE
            look(0, 0) = 4; look(0, 9) = 5
            """);
        StringBuilder none = new StringBuilder();
        StringBuilder beside = new StringBuilder(one);
        for (int what = -1; what <= 10; what++) {
            for (String d : new String[] {"-1", "1", "11", "12", "MIN", "MAX"}) {
                beside.append("look(" + d + ", " + what + ") = NONE; ");
            }
            none.append("look(0, " + what + ") = NONE; look(-1, " + what + ") = NONE; ");
        }
        runs.run("22: NONE for others: no such DEED beside one", beside.toString());
        runs.run("22: NONE for others: no DEEDS at all", none + "look(MIN, MIN) = NONE; look(MAX, MAX) = NONE");
        runs.run("22: the last of 12, and the next",
            "11x deed(0, 9, 1); deed(3, 4, 5); look(11, 0) = 3; look(11, 1) = 4; "
            + "look(11, 2) = 5; look(11, 9) = 4; look(12, 0) = NONE; look(12, 9) = NONE; look(10, 1) = 9");
    }

    private static void lookNumbers() {
        runs.run("22: 0, 1 the first YEAR and the last", "deed(0, 3000, 1); look(0, 0) = 0; look(0, 1) = 3000");
        runs.run("22: 0, 1 stay as they are said", """
            person(5, 6); deed(4, 7, 1); mark(0, 0, 0); look(0, 0) = 4; look(0, 1) = 7; lived(0, 9, 9)
            look(0, 0) = 4; look(0, 1) = 7
            """);
        runs.run("22: 2 WEIGHT, the least and the greatest",
            "deed(0, 9, 1); deed(0, 9, 99); look(0, 2) = 1; look(1, 2) = 99");
        runs.run("22: 3 MARKS, from none to 8", """
            deed(0, 9, 1); look(0, 3) = 0; mark(0, 3, 0); look(0, 3) = 1; mark(0, 3, 1); mark(0, 3, 2)
            mark(0, 3, 3); mark(0, 3, 4); mark(0, 3, 5); mark(0, 3, 6); look(0, 3) = 7; mark(0, 3, 7); look(0, 3) = 8
            """);
        runs.run("22: 4 how a COURT judged", """
            deed(0, 9, 1); look(0, 4) = 0; court(0, 1); look(0, 4) = 1; court(0, 2); look(0, 4) = 2; court(0, 0)
            look(0, 4) = 0
            """);
        runs.run("22: 5 letters, from none to 20", """
            deed(0, 9, 1); look(0, 5) = 0; feed("abcdefghijklmnopqrst"); look(0, 5) = 0; words(0, 20); look(0, 5) = 20
            words(0, 0); look(0, 5) = 0
            """);
        runs.run("22: 6 the HOUSE, NONE: no CLAIM", "deed(0, 9, 1); look(0, 6) = NONE; claim(0, 0, 0); look(0, 6) = 0");
        runs.run("22: 7 PARCELS, from none to 1023", """
            deed(0, 9, 1); look(0, 7) = 0; claim(0, 0, 1023); look(0, 7) = 1023; claim(0, 0, 0); look(0, 7) = 0
            """);
    }

    private static void noOwnYears() {
        runs.run("22: 8, 9 without MARKS", "deed(4, 7, 1); look(0, 8) = 4; look(0, 9) = 7");
        runs.run("22: 8, 9 NONE: none, a WITNESS a YEAR too late", """
            person(8, 9); deed(4, 7, 1); mark(0, 0, 0); look(0, 8) = NONE; look(0, 9) = NONE; lived(0, 7, 9)
            look(0, 8) = 7; look(0, 9) = 7
            """);
        runs.run("22: 8, 9 NONE: none, a WITNESS a YEAR too early", """
            person(0, 3); deed(4, 7, 1); mark(0, 0, 0); look(0, 8) = NONE; look(0, 9) = NONE; lived(0, 0, 4)
            look(0, 8) = 4; look(0, 9) = 4
            """);
        runs.run("22: 8, 9 NONE: none, of its MARKS alone", """
            formula(4, 5); seal(6, 7); seal(5, 7); 2x deed(0, 9, 1); mark(0, 1, 0); mark(0, 2, 0); look(0, 8) = NONE
            look(0, 9) = NONE; mark(1, 1, 0); mark(1, 2, 1); look(1, 8) = 5; look(1, 9) = 5
            """);
        runs.run("22: 8, 9 YEARS 0 and 3000", """
            person(0, 0); formula(3000, 3000); 3x deed(0, 3000, 1); look(0, 8) = 0; look(0, 9) = 3000; mark(1, 0, 0)
            look(1, 8) = 0; look(1, 9) = 0; mark(2, 1, 0); look(2, 8) = 3000; look(2, 9) = 3000; mark(2, 0, 0)
            look(2, 8) = NONE
            look(2, 9) = NONE
            """);
        runs.run("22: 8, 9 WITNESSES, FORMULAS and SEALS each", """
            person(1, 98); formula(2, 97); seal(3, 96); deed(0, 99, 1); look(0, 8) = 0; look(0, 9) = 99
            mark(0, 0, 0); look(0, 8) = 1; look(0, 9) = 98; mark(0, 1, 0); look(0, 8) = 2; look(0, 9) = 97
            mark(0, 2, 0); look(0, 8) = 3
            look(0, 9) = 96
            """);
    }

    private static void ownYearsWithoutOthers() {
        runs.run("22: 8, 9 HANDS not asked", """
            span(0); deed(0, 9, 1); deed(5, 5, 9); mark(0, 3, 0); mark(1, 3, 0); year(0, 0) = 5; look(0, 8) = 0
            look(0, 9) = 9
            """);
        runs.run("22: 8, 9 DEEDS not asked", """
            deed(0, 9, 1); deed(5, 5, 9); mark(0, 4, 1); year(0, 0) = 5; look(0, 8) = 0; look(0, 9) = 9
            look(1, 8) = 5
            """);
        runs.run("22: 8, 9 of a FORGED one", """
            deed(0, 4, 1); deed(5, 5, 9); mark(0, 4, 1); forged() = 1; year(0, 0) = NONE; look(0, 8) = 0
            look(0, 9) = 4
            """);
    }

    private static void noSuchCount() {
        String others = "count(-1) = NONE; count(8) = NONE; count(9) = NONE; count(MIN) = NONE; count(MAX) = NONE; ";
        runs.run("23: NONE for others", others);
        runs.run("23: NONE for others beside something", "person(0, 1); deed(0, 1, 1); feed(\"a\"); " + others
            + "count(0) = 1; count(7) = 0");
    }

    private static void countOfSpans() {
        runs.run("23: 0 PEOPLE, from none to 20",
            "count(0) = 0; person(0, 1); count(0) = 1; 18x person(0, 1); count(0) = 19; "
            + "person(0, 1); count(0) = 20; person(0, 1) = NONE; count(0) = 20");
        runs.run("23: 1 FORMULAS, from none to 10",
            "count(1) = 0; formula(0, 1); count(1) = 1; 8x formula(0, 1); count(1) = 9; "
            + "formula(0, 1); count(1) = 10; formula(0, 1) = NONE; count(1) = 10");
        runs.run("23: 2 SEALS, from none to 8", "count(2) = 0; seal(0, 1); count(2) = 1; 6x seal(0, 1); count(2) = 7; "
            + "seal(0, 1); count(2) = 8; seal(0, 1) = NONE; count(2) = 8");
        runs.run("23: 3 DEEDS, from none to 12",
            "count(3) = 0; deed(0, 1, 1); count(3) = 1; 10x deed(0, 1, 1); count(3) = 11; "
            + "deed(0, 1, 1); count(3) = 12; deed(0, 1, 1) = NONE; count(3) = 12");
        runs.run("23: each of its own", """
            4x person(0, 1); 3x formula(0, 1); 2x seal(0, 1); deed(0, 1, 1); count(0) = 4; count(1) = 3
            count(2) = 2; count(3) = 1
            """);
    }

    private static void countOfOthers() {
        runs.run("23: 4 W, from 0 to 200",
            "count(4) = 40; span(0); count(4) = 0; span(200); count(4) = 200; span(201) = false; "
            + "count(4) = 200");
        runs.run("23: 5 FORGED ones, from none to all", """
            person(0, 0); count(5) = 0; 3x deed(1, 9, 1); count(5) = 0; mark(0, 0, 0); count(5) = 1; mark(1, 0, 0)
            count(5) = 2; mark(2, 0, 0); count(5) = 3; lived(0, 0, 1); count(5) = 0
            """);
        runs.run("23: 6 bytes of the tape, 0, 20 and 40", """
            deed(0, 9, 1); count(6) = 0; feed("a"); count(6) = 20; feed("a"); count(6) = 40; feed("a") = NONE
            count(6) = 40; words(0, 1); count(6) = 0
            """);
        runs.run("23: 7 CLASHES, from none", """
            3x deed(0, 9, 1); count(7) = 0; claim(0, 0, 1); count(7) = 0; claim(1, 1, 1); count(7) = 1
            claim(2, 2, 1); count(7) = 3; claim(2, 1, 1); count(7) = 2; claim(0, 1, 1); count(7) = 0
            """);
    }
}

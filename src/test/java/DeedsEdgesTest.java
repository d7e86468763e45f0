/** The edges of promises 7 and 8 and of the terms behind them, a run for each sentence. */
public final class DeedsEdgesTest {
    private static final Check check = new Check("DeedsEdgesTest");
    private static final Runs runs = new Runs(check);

    public static void main(String[] args) {
        deedYears();
        deedWeight();
        twelveDeeds();
        marksOfSpans("8: a WITNESS", "person", 0, 20);
        marksOfSpans("8: a FORMULA", "formula", 1, 10);
        marksOfSpans("8: a SEAL", "seal", 2, 8);
        hands();
        namedDeeds();
        noSuchDeedToMark();
        noSuchKind();
        alikeMarks();
        eightMarks();
        check.end();
    }

    private static void deedYears() {
        runs.run("7: YEAR 0 is the first",
            "deed(0, 0, 1) = 0; look(0, 0) = 0; look(0, 1) = 0; year(0, 0) = 0; year(0, 1) = 0");
        runs.run("7: NONE: no such YEARS, ahead of 0", """
            deed(-1, -1, 1) = NONE; deed(-1, 0, 1) = NONE; deed(-1, 3000, 1) = NONE; count(3) = 0; deed(1, 2, 1) = 0
            """);
        runs.run("7: YEAR 3000 is the last", """
            deed(3000, 3000, 1) = 0; look(0, 0) = 3000; look(0, 1) = 3000; year(0, 0) = 3000; year(0, 1) = 3000
            """);
        runs.run("7: NONE: no such YEARS, behind 3000", """
            deed(3001, 3001, 1) = NONE; deed(3000, 3001, 1) = NONE; deed(0, 3001, 1) = NONE; count(3) = 0
            deed(1, 2, 1) = 0
            """);
        runs.run("7: all YEARS",
            "deed(0, 3000, 1) = 0; look(0, 0) = 0; look(0, 1) = 3000; year(0, 0) = 0; year(0, 1) = 3000");
        runs.run("7: NONE: no such YEARS, to ahead of from", """
            deed(6, 5, 1) = NONE; deed(1, 0, 1) = NONE; deed(3000, 2999, 1) = NONE; deed(3000, 0, 1) = NONE
            count(3) = 0; deed(5, 5, 1) = 0; deed(5, 6, 1) = 1; look(1, 0) = 5; look(1, 1) = 6
            """);
        runs.run("7: NONE: the least and the greatest int as YEARS", """
            deed(MIN, MIN, 1) = NONE; deed(MIN, 9, 1) = NONE; deed(MIN, MAX, 1) = NONE; deed(9, MIN, 1) = NONE
            deed(9, MAX, 1) = NONE; deed(MAX, MIN, 1) = NONE; deed(MAX, 9, 1) = NONE; deed(MAX, MAX, 1) = NONE
            count(3) = 0; agree(1) = NONE; deed(1, 2, 1) = 0
            """);
    }

    private static void deedWeight() {
        runs.run("7: WEIGHT 1 is the least", "deed(0, 9, 1) = 0; look(0, 2) = 1; weight(1) = 1");
        runs.run("7: WEIGHT 99 is the greatest", "deed(0, 9, 99) = 0; look(0, 2) = 99; weight(1) = 99");
        runs.run("7: NONE: no such WEIGHT, below 1", """
            deed(0, 9, 0) = NONE; deed(0, 9, -1) = NONE; count(3) = 0; deed(0, 9, 2) = 0; look(0, 2) = 2
            """);
        runs.run("7: NONE: no such WEIGHT, above 99", """
            deed(0, 9, 100) = NONE; deed(0, 9, 101) = NONE; count(3) = 0; deed(0, 9, 98) = 0; look(0, 2) = 98
            """);
        runs.run("7: NONE: the least and the greatest int as WEIGHT", """
            deed(0, 9, MIN) = NONE; deed(0, 9, MAX) = NONE; deed(MIN, MAX, MIN) = NONE; count(3) = 0
            deed(0, 9, 3) = 0
            """);
    }

    private static String deeds(int many) {
        StringBuilder rows = new StringBuilder();
        for (int d = 0; d < many; d++) {
            rows.append(String.format("deed(%d, %d, %d) = %d; count(3) = %d; ", d, 100 + d, 10 + d, d, d + 1));
        }
        return rows.toString();
    }

    private static void twelveDeeds() {
        runs.run("7: DEED 11 is the last", deeds(12) + """
            look(11, 0) = 11; look(11, 1) = 111; look(11, 2) = 21; look(0, 2) = 10; weight(2048) = 21
            year(11, 1) = 111
            """);
        runs.run("7: NONE: 12 are there", deeds(12) + """
            deed(0, 3000, 1) = NONE; deed(-1, 3000, 1) = NONE; deed(0, 3000, 100) = NONE; deed(MIN, MAX, MAX) = NONE
            count(3) = 12; look(11, 2) = 21; look(0, 2) = 10; look(12, 2) = NONE; agree(4096) = NONE
            weight(4095) = 186
            """);
        runs.run("7: a refused one takes no number and leaves nothing", """
            deed(0, 9, 1) = 0; deed(9, 0, 1) = NONE; deed(0, 9, 100) = NONE; count(3) = 1; look(1, 2) = NONE
            mark(0, 4, 1) = false; deed(20, 30, 4) = 1; look(1, 0) = 20; look(1, 2) = 4
            """);
        runs.run("7: a new one has no MARKS, CLAIM, WORDS, and a COURT has not judged it", deeds(12) + """
            look(0, 3) = 0; look(0, 4) = 0; look(0, 5) = 0; look(0, 6) = NONE; look(0, 7) = 0
            look(11, 3) = 0; look(11, 4) = 0; look(11, 5) = 0; look(11, 6) = NONE; look(11, 7) = 0
            """);
        runs.run("7: a judgement that was asked before it comes anew", """
            forged() = 0; quarrel() = 0; person(5, 6); deed(0, 9, 1); mark(0, 0, 0); forged() = 0; agree(1) = 1
            lived(0, 10, 11); forged() = 1; deed(0, 9, 1) = 1; forged() = 1; year(1, 1) = 9; quarrel() = 1
            agree(3) = 0
            """);
    }

    private static void marksOfSpans(String what, String name, int kind, int most) {
        StringBuilder full = new StringBuilder("deed(0, 3000, 1); deed(0, 3000, 1); ");
        for (int i = 0; i < most; i++) {
            full.append(String.format("%s(%d, 1000) = %d; ", name, 100 + i, i));
        }
        String filled = full.toString();
        String some = "deed(0, 3000, 1); " + name + "(7, 70); " + name + "(8, 80); ";
        runs.run(what + ", the first and the last of two", fill(some + """
            mark(0, KIND, 0) = true; look(0, 8) = 7; look(0, 9) = 70; mark(0, KIND, 1) = true; look(0, 8) = 8
            look(0, 3) = 2
            """, kind));
        runs.run(what + ": false: no such ones beside two", fill(some + """
            mark(0, KIND, -1) = false; mark(0, KIND, 2) = false; mark(0, KIND, 31) = false; mark(0, KIND, 32) = false
            mark(0, KIND, 33) = false; mark(0, KIND, MIN) = false; mark(0, KIND, MAX) = false; look(0, 3) = 0
            look(0, 8) = 0; look(0, 9) = 3000
            """, kind) + name + "(9, 90) = 2; look(0, 3) = 0; look(0, 8) = 0");
        runs.run(what + ", the first and the last of all", fill(filled + """
            mark(0, KIND, 0) = true; look(0, 8) = 100; mark(1, KIND, LAST) = true; look(1, 8) = YEAR
            """, kind).replace("LAST", String.valueOf(most - 1)).replace("YEAR", String.valueOf(99 + most)));
        runs.run(what + ": false: no such ones beside all", fill(filled + """
            mark(0, KIND, -1) = false; mark(0, KIND, MANY) = false; mark(0, KIND, MIN) = false
            mark(0, KIND, MAX) = false; look(0, 3) = 0; look(0, 8) = 0
            """, kind).replace("MANY", String.valueOf(most)));
        runs.run(what + ": false: it has that", fill(some + """
            mark(0, KIND, 1) = true; mark(0, KIND, 1) = false; look(0, 3) = 1; look(0, 8) = 8
            mark(0, KIND, 0) = true; mark(0, KIND, 0) = false; mark(0, KIND, 1) = false; look(0, 3) = 2
            """, kind));
    }

    private static String fill(String rows, int kind) {
        return rows.replace("KIND", String.valueOf(kind));
    }

    private static void hands() {
        String two = "span(0); deed(1, 1, 1); deed(2, 2, 1); ";
        runs.run("8: HAND 0 is the first",
            two + "mark(0, 3, 0) = true; mark(1, 3, 0) = true; agree(3) = 0; look(0, 3) = 1");
        runs.run("8: HAND 7 is the last",
            two + "mark(0, 3, 7) = true; mark(1, 3, 7) = true; agree(3) = 0; look(0, 3) = 1");
        runs.run("8: false: no such HAND, below 0",
            two + "mark(0, 3, -1) = false; mark(1, 3, -1) = false; agree(3) = 1");
        runs.run("8: false: no such HAND, above 7", two + """
            mark(0, 3, 8) = false; mark(1, 3, 8) = false; mark(0, 3, 32) = false; mark(1, 3, 32) = false; agree(3) = 1
            look(0, 3) = 0; look(1, 3) = 0
            """);
        runs.run("8: false: the least and the greatest int as HAND", two + """
            mark(0, 3, MIN) = false; mark(0, 3, MAX) = false; mark(1, 3, MIN) = false; mark(1, 3, MAX) = false
            agree(3) = 1; look(0, 3) = 0
            """);
        runs.run("8: false: it has that HAND", two + """
            mark(0, 3, 7) = true; mark(0, 3, 7) = false; look(0, 3) = 1; mark(1, 3, 7) = true; mark(1, 3, 7) = false
            look(1, 3) = 1; agree(3) = 0
            """);
        runs.run("8: no HAND needs to be told ahead", "deed(0, 1, 1); mark(0, 3, 5) = true");
    }

    private static void namedDeeds() {
        runs.run("8: DEED 0 names DEED 1",
            "deed(1, 1, 1); deed(2, 2, 1); mark(0, 4, 1) = true; look(0, 3) = 1; agree(3) = 0");
        runs.run("8: DEED 1 names DEED 0",
            "deed(2, 2, 1); deed(1, 1, 1); mark(1, 4, 0) = true; look(1, 3) = 1; agree(3) = 0");
        runs.run("8: false: it names itself", """
            2x deed(1, 2, 1); mark(0, 4, 0) = false; mark(1, 4, 1) = false; look(0, 3) = 0; look(1, 3) = 0
            agree(3) = 1
            """);
        runs.run("8: false: the last of 12 names itself", """
            12x deed(1, 2, 1); mark(11, 4, 11) = false; look(11, 3) = 0; mark(11, 4, 10) = true
            mark(10, 4, 11) = true
            """);
        runs.run("8: itself is no bar where the MARK is no DEED", """
            deed(1, 2, 1); person(1, 2); formula(1, 2); seal(1, 2)
            mark(0, 0, 0) = true; mark(0, 1, 0) = true; mark(0, 2, 0) = true; mark(0, 3, 0) = true
            mark(0, 4, 0) = false
            """);
        runs.run("8: false: no such DEED to name", """
            2x deed(1, 2, 1); mark(0, 4, -1) = false; mark(0, 4, 2) = false; mark(0, 4, 11) = false
            mark(0, 4, 12) = false; mark(0, 4, 32) = false; mark(0, 4, MIN) = false; mark(0, 4, MAX) = false
            look(0, 3) = 0
            deed(3, 3, 1) = 2; agree(7) = 1
            """);
        runs.run("8: the first and the last of 12 name each other", """
            deed(5, 5, 1); 10x deed(0, 9, 1); deed(6, 6, 1); mark(0, 4, 12) = false; mark(11, 4, 12) = false
            mark(11, 4, 0) = true; agree(2049) = 1; mark(0, 4, 11) = true; agree(2049) = 0; look(0, 3) = 1
            """);
        runs.run("8: false: it names that", """
            2x deed(1, 2, 1); mark(0, 4, 1) = true; mark(0, 4, 1) = false; look(0, 3) = 1; mark(1, 4, 0) = true
            mark(1, 4, 0) = false; look(1, 3) = 1
            """);
    }

    private static void noSuchDeedToMark() {
        runs.run("8: false: no such DEED, none is there", """
            person(0, 1); mark(0, 0, 0) = false; mark(-1, 3, 0) = false; mark(0, 3, 0) = false; deed(0, 9, 1) = 0
            look(0, 3) = 0
            """);
        runs.run("8: false: no such DEED beside two", """
            person(0, 1); 2x deed(0, 9, 1); mark(-1, 0, 0) = false; mark(2, 0, 0) = false; mark(11, 0, 0) = false
            mark(12, 0, 0) = false; mark(MIN, 0, 0) = false; mark(MAX, 0, 0) = false; mark(2, 4, 0) = false
            look(0, 3) = 0; look(1, 3) = 0; deed(0, 9, 1) = 2; look(2, 3) = 0; look(2, 9) = 9
            """);
        runs.run("8: the first and the last of two", """
            person(0, 1); 2x deed(0, 9, 1); mark(0, 0, 0) = true; look(0, 3) = 1; look(1, 3) = 0
            mark(1, 0, 0) = true; look(0, 3) = 1; look(1, 3) = 1
            """);
        runs.run("8: the last of 12, and the next", """
            person(0, 1); 12x deed(0, 9, 1); mark(12, 0, 0) = false; mark(11, 0, 0) = true; look(11, 3) = 1
            look(11, 9) = 1; look(0, 3) = 0; look(10, 3) = 0
            """);
    }

    private static void noSuchKind() {
        String one = "person(1, 2); formula(3, 4); seal(5, 6); 2x deed(0, 9, 1); ";
        runs.run("8: MARK 0 is a WITNESS", one + "mark(0, 0, 0) = true; look(0, 8) = 1; look(0, 9) = 2");
        runs.run("8: MARK 1 is a FORMULA", one + "mark(0, 1, 0) = true; look(0, 8) = 3; look(0, 9) = 4");
        runs.run("8: MARK 2 is a SEAL", one + "mark(0, 2, 0) = true; look(0, 8) = 5; look(0, 9) = 6");
        runs.run("8: MARK 3 is a HAND", one + """
            mark(0, 3, 0) = true; look(0, 8) = 0; look(0, 9) = 9; span(0); mark(1, 3, 0); deed(9, 9, 9); mark(2, 4, 0)
            mark(0, 4, 2); year(0, 0) = 9; year(1, 0) = 9
            """);
        runs.run("8: MARK 4 is a DEED that it names", one + """
            mark(0, 4, 1) = true; look(0, 8) = 0; look(0, 9) = 9; mark(0, 0, 0); year(1, 1) = 2
            """);
        runs.run("8: false: no such kind of MARK", one + """
            mark(0, -1, 0) = false; mark(0, 5, 0) = false; mark(0, 5, 1) = false; mark(0, MIN, 0) = false
            mark(0, MAX, 0) = false; look(0, 3) = 0; look(1, 3) = 0; look(0, 8) = 0; look(0, 9) = 9; agree(3) = 1
            """);
    }

    private static void alikeMarks() {
        runs.run("Terms: MARKS of unlike kinds with one number are not alike", """
            2x person(0, 9); 2x formula(0, 9); 2x seal(0, 9); 2x deed(0, 9, 1)
            mark(0, 0, 1) = true; mark(0, 1, 1) = true; mark(0, 2, 1) = true; mark(0, 3, 1) = true
            mark(0, 4, 1) = true; look(0, 3) = 5
            mark(0, 0, 1) = false; mark(0, 1, 1) = false; mark(0, 2, 1) = false; mark(0, 3, 1) = false
            mark(0, 4, 1) = false; look(0, 3) = 5
            """);
        runs.run("Terms: two DEEDS may have MARKS alike", """
            person(0, 9); 3x deed(0, 9, 1); mark(0, 0, 0) = true; mark(1, 0, 0) = true; mark(2, 0, 0) = true
            mark(0, 3, 0) = true; mark(1, 3, 0) = true; mark(0, 4, 2) = true; mark(1, 4, 2) = true
            """);
        String asked = "person(5, 6); formula(5, 6); seal(5, 6); deed(0, 9, 1); deed(7, 7, 9); forged() = 0; ";
        runs.run("8: a judgement that was asked before a WITNESS comes anew",
            asked + "mark(0, 0, 0); year(0, 0) = 5; mark(1, 0, 0); forged() = 2; quarrel() = 2; agree(2) = 0");
        runs.run("8: a judgement that was asked before a FORMULA comes anew",
            asked + "mark(0, 1, 0); year(0, 0) = 5; mark(1, 1, 0); forged() = 2; quarrel() = 2; agree(2) = 0");
        runs.run("8: a judgement that was asked before a SEAL comes anew",
            asked + "mark(0, 2, 0); year(0, 0) = 5; mark(1, 2, 0); forged() = 2; quarrel() = 2; agree(2) = 0");
        runs.run("8: a judgement that was asked before a HAND comes anew",
            asked + "span(1); mark(0, 3, 0); year(0, 0) = 0; mark(1, 3, 0); year(0, 0) = 6; year(0, 1) = 8");
        runs.run("8: a judgement that was asked before a DEED that it names comes anew",
            asked + "mark(0, 4, 1); year(0, 0) = 7; mark(1, 4, 0); year(0, 1) = 7; quarrel() = 0");
        runs.run("8: a refused MARK leaves the judgement that was asked", """
            deed(0, 0, 1); deed(9, 9, 2); mark(0, 4, 1); forged() = 1; mark(0, 4, 1) = false; mark(1, 4, 1) = false
            mark(1, 4, 2) = false; forged() = 1; quarrel() = 3; year(1, 0) = 9
            """);
    }

    private static void eightMarks() {
        String seven = "9x person(0, 50); formula(3, 40); seal(4, 30); 12x deed(0, 90, 1); "
            + "mark(0, 0, 0); mark(0, 0, 1); mark(0, 0, 2); mark(0, 0, 3); mark(0, 0, 4); mark(0, 0, 5); "
            + "mark(0, 0, 6); look(0, 3) = 7; ";
        runs.run("8: an eighth MARK, a WITNESS", seven + "mark(0, 0, 7) = true; look(0, 3) = 8");
        runs.run("8: an eighth MARK, a FORMULA", seven + "mark(0, 1, 0) = true; look(0, 3) = 8; look(0, 8) = 3");
        runs.run("8: an eighth MARK, a SEAL", seven + "mark(0, 2, 0) = true; look(0, 3) = 8; look(0, 8) = 4");
        runs.run("8: an eighth MARK, a HAND", seven + "mark(0, 3, 0) = true; look(0, 3) = 8");
        runs.run("8: an eighth MARK, a DEED", seven + "mark(0, 4, 11) = true; look(0, 3) = 8");
        String eight = seven + "mark(0, 0, 8); look(0, 3) = 8; ";
        runs.run("8: false: it has 8, a WITNESS more",
            eight + "mark(0, 0, 7) = false; look(0, 3) = 8; sure(7, 0) = NONE");
        runs.run("8: false: it has 8, a FORMULA more", eight + "mark(0, 1, 0) = false; look(0, 3) = 8; look(0, 8) = 0");
        runs.run("8: false: it has 8, a SEAL more", eight + "mark(0, 2, 0) = false; look(0, 3) = 8; look(0, 9) = 50");
        runs.run("8: false: it has 8, a HAND more", eight + """
            mark(0, 3, 0) = false; look(0, 3) = 8; span(0); person(60, 60); mark(1, 0, 9); mark(1, 3, 0); agree(3) = 1
            """);
        runs.run("8: false: it has 8, a DEED more", eight + """
            mark(0, 4, 1) = false; look(0, 3) = 8; person(60, 60); mark(1, 0, 9); agree(3) = 1
            """);
        runs.run("8: false: it has 8, and that one",
            eight + "mark(0, 0, 0) = false; mark(0, 0, 8) = false; look(0, 3) = 8");
        runs.run("8: another DEED still takes eight", eight + """
            mark(1, 3, 0) = true; mark(1, 3, 1) = true; mark(1, 3, 2) = true; mark(1, 3, 3) = true
            mark(1, 3, 4) = true; mark(1, 3, 5) = true; mark(1, 3, 6) = true; mark(1, 3, 7) = true
            mark(1, 0, 0) = false; look(1, 3) = 8
            """);
        runs.run("8: eight DEEDS that it names", """
            12x deed(0, 9, 1); mark(11, 4, 0); mark(11, 4, 1); mark(11, 4, 2); mark(11, 4, 3); mark(11, 4, 4)
            mark(11, 4, 5); mark(11, 4, 6); mark(11, 4, 7) = true; mark(11, 4, 8) = false; mark(11, 4, 10) = false
            look(11, 3) = 8
            """);
    }
}

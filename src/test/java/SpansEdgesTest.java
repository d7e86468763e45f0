/** The edges of promises 1 to 6 and of the terms behind them, a run for each sentence. */
public final class SpansEdgesTest {
    private static final Check check = new Check("SpansEdgesTest");
    private static final Runs runs = new Runs(check);

    public static void main(String[] args) {
        newObject();
        lastPromisedCall();
        // The number of a kind of mark is also that under which count tells how many there are.
        yearsOf("2: person", "person", 0);
        fullOf("2: person", "person", 0, 20);
        yearsOf("4: formula", "formula", 1);
        fullOf("4: formula", "formula", 1, 10);
        yearsOf("5: seal", "seal", 2);
        fullOf("5: seal", "seal", 2, 8);
        livedNoSuchPerson();
        livedYears();
        span();
        check.end();
    }

    private static void newObject() {
        check.same("The constants: NONE", DeedBench.NONE, -1);
        runs.run("1: no PEOPLE", """
            count(0) = 0; lived(0, 0, 3000) = false; sure(0, 0) = NONE; sure(0, 1) = NONE
            deed(0, 3000, 1) = 0; mark(0, 0, 0) = false; person(0, 0) = 0; mark(0, 0, 0) = true
            """);
        runs.run("1: no FORMULAS", """
            count(1) = 0; deed(0, 3000, 1) = 0; mark(0, 1, 0) = false; formula(0, 0) = 0; mark(0, 1, 0) = true
            """);
        runs.run("1: no SEALS", """
            count(2) = 0; deed(0, 3000, 1) = 0; mark(0, 2, 0) = false; seal(0, 0) = 0; mark(0, 2, 0) = true
            """);
        runs.run("1: no DEEDS", """
            count(3) = 0; count(5) = 0; count(7) = 0
            mark(0, 3, 0) = false; words(0, 0) = false; claim(0, 0, 1) = false; court(0, 1) = false
            agree(0) = 1; agree(1) = NONE; weight(0) = 0; weight(1) = NONE; forged() = 0; quarrel() = 0
            year(0, 0) = NONE; year(0, 1) = NONE; model(0, 0) = NONE; clash(0, 0) = NONE; otherwise(0) = NONE
            look(0, 0) = NONE; look(0, 7) = NONE; look(0, 8) = NONE; deed(0, 0, 1) = 0
            """);
        runs.run("1: nothing on the tape", "count(6) = 0; deed(0, 0, 1); words(0, 1) = false; words(0, 0) = true");
        runs.run("Terms: W is 40 at first", """
            count(4) = 40; deed(0, 0, 1); deed(40, 40, 1); deed(41, 41, 1)
            mark(0, 3, 0); mark(1, 3, 0); mark(2, 3, 0); agree(3) = 1; agree(5) = 0
            """);
    }

    private static void lastPromisedCall() {
        runs.run("What it is: at most 512 calls, refused ones", "511x person(-1, 0) = NONE; person(0, 0) = 0");
        runs.run("What it is: at most 512 calls, taken ones",
            "deed(0, 9, 1) = 0; " + "feed(\"abcd\") = 20; words(0, 4) = true; ".repeat(255) + "look(0, 5) = 4");
        runs.run("What it is: at most 512 calls, questions", """
            deed(0, 9, 1) = 0; deed(10, 10, 2) = 1; mark(0, 4, 1) = true
            254x forged() = 1; 254x quarrel() = 3; year(1, 1) = 10
            """);
    }

    private static String fill(String rows, String name, int kind) {
        return rows.replace("make", name).replace("KIND", String.valueOf(kind));
    }

    private static void yearsOf(String promise, String name, int kind) {
        runs.run(promise + ": YEAR 0 is the first", fill("""
            make(0, 0) = 0; deed(0, 3000, 1); mark(0, KIND, 0); look(0, 8) = 0; look(0, 9) = 0
            year(0, 0) = 0; year(0, 1) = 0
            """, name, kind));
        runs.run(promise + ": NONE: no such YEARS, ahead of 0", fill("""
            make(-1, -1) = NONE; make(-1, 0) = NONE; make(-1, 3000) = NONE; count(KIND) = 0; make(0, 1) = 0
            """, name, kind));
        runs.run(promise + ": YEAR 3000 is the last", fill("""
            make(3000, 3000) = 0; deed(0, 3000, 1); mark(0, KIND, 0); look(0, 8) = 3000; look(0, 9) = 3000
            year(0, 0) = 3000; year(0, 1) = 3000
            """, name, kind));
        runs.run(promise + ": NONE: no such YEARS, behind 3000", fill("""
            make(3001, 3001) = NONE; make(3000, 3001) = NONE; make(0, 3001) = NONE; count(KIND) = 0; make(0, 1) = 0
            """, name, kind));
        runs.run(promise + ": all YEARS", fill("""
            make(0, 3000) = 0; deed(0, 3000, 1); mark(0, KIND, 0); look(0, 8) = 0; look(0, 9) = 3000
            """, name, kind));
        runs.run(promise + ": one YEAR, or two", fill("""
            make(5, 5) = 0; make(5, 6) = 1; deed(0, 3000, 1); deed(0, 3000, 1); mark(0, KIND, 0); mark(1, KIND, 1)
            look(0, 8) = 5; look(0, 9) = 5; look(1, 8) = 5; look(1, 9) = 6
            """, name, kind));
        runs.run(promise + ": NONE: no such YEARS, to ahead of from", fill("""
            make(6, 5) = NONE; make(1, 0) = NONE; make(3000, 2999) = NONE; make(3000, 0) = NONE
            count(KIND) = 0; make(5, 6) = 0
            """, name, kind));
        runs.run(promise + ": NONE: the least and the greatest int", fill("""
            make(MIN, MIN) = NONE; make(MIN, 0) = NONE; make(MIN, 3000) = NONE; make(MIN, MAX) = NONE
            make(0, MIN) = NONE; make(0, MAX) = NONE; make(3000, MIN) = NONE; make(3000, MAX) = NONE
            make(MAX, MIN) = NONE; make(MAX, 0) = NONE; make(MAX, 3000) = NONE; make(MAX, MAX) = NONE
            count(KIND) = 0; make(5, 6) = 0
            """, name, kind));
    }

    private static void fullOf(String promise, String name, int kind, int most) {
        StringBuilder rows = new StringBuilder("deed(0, 3000, 1); ");
        for (int i = 0; i < most; i++) {
            rows.append(fill("make(" + i + ", 100) = " + i + "; count(KIND) = " + (i + 1) + "; ", name, kind));
        }
        String full = rows.toString();
        String lastOne = String.valueOf(most - 1);
        runs.run(promise + ": the number of the last one", full + fill("""
            mark(0, KIND, LAST) = true; look(0, 8) = LAST
            """, name, kind).replace("LAST", lastOne));
        runs.run(promise + ": NONE: " + most + " are there", full + fill("""
            make(50, 60) = NONE; make(0, 3000) = NONE; make(-1, 3000) = NONE; make(MAX, MIN) = NONE
            count(KIND) = MANY; mark(0, KIND, MANY) = false; mark(0, KIND, LAST) = true; mark(0, KIND, 0) = true
            look(0, 8) = LAST; look(0, 9) = 100
            """, name, kind).replace("LAST", lastOne).replace("MANY", String.valueOf(most)));
        runs.run(promise + ": a refused one takes no number", fill("""
            make(5, 6) = 0; make(6, 5) = NONE; make(-1, 5) = NONE; make(7, 8) = 1; count(KIND) = 2
            deed(0, 3000, 1); mark(0, KIND, 2) = false; mark(0, KIND, 1) = true; look(0, 8) = 7
            """, name, kind));
        runs.run(promise + ": it is no other kind's", fill("""
            make(5, 6) = 0; deed(0, 3000, 1); mark(0, OTHER, 0) = false; mark(0, THIRD, 0) = false
            count(OTHER) = 0; count(THIRD) = 0; mark(0, KIND, 0) = true
            """, name, kind)
            .replace("OTHER", String.valueOf((kind + 1) % 3)).replace("THIRD", String.valueOf((kind + 2) % 3)));
    }

    private static void livedNoSuchPerson() {
        runs.run("3: false: no such PERSON, none is there", """
            lived(0, 5, 6) = false; lived(-1, 5, 6) = false; lived(MIN, 5, 6) = false; lived(MAX, 5, 6) = false
            count(0) = 0; person(0, 3000) = 0; deed(0, 3000, 1); mark(0, 0, 0); look(0, 8) = 0; look(0, 9) = 3000
            """);
        runs.run("3: the first and the last PERSON of two", """
            2x person(0, 3000); 2x deed(0, 3000, 1); mark(0, 0, 0); mark(1, 0, 1)
            lived(0, 5, 6) = true; look(0, 8) = 5; look(0, 9) = 6; look(1, 8) = 0; look(1, 9) = 3000
            lived(1, 7, 8) = true; look(0, 8) = 5; look(0, 9) = 6; look(1, 8) = 7; look(1, 9) = 8
            """);
        runs.run("3: false: no such PERSON beside two", """
            2x person(0, 3000); 2x deed(0, 3000, 1); mark(0, 0, 0); mark(1, 0, 1)
            lived(-1, 5, 6) = false; lived(2, 5, 6) = false; lived(19, 5, 6) = false; lived(20, 5, 6) = false
            lived(32, 5, 6) = false; lived(MIN, 5, 6) = false; lived(MAX, 5, 6) = false; count(0) = 2
            look(0, 8) = 0; look(0, 9) = 3000; look(1, 8) = 0; look(1, 9) = 3000
            person(10, 20) = 2; mark(0, 0, 2); look(0, 8) = 10; look(0, 9) = 20
            """);
        runs.run("3: the last PERSON of 20", """
            20x person(0, 3000); deed(0, 3000, 1); mark(0, 0, 19); lived(20, 1, 2) = false; look(0, 9) = 3000
            lived(19, 5, 6) = true; look(0, 8) = 5; look(0, 9) = 6; count(0) = 20
            """);
    }

    private static void livedYears() {
        String one = "person(100, 200); deed(0, 3000, 1); mark(0, 0, 0); ";
        String asBefore = "look(0, 8) = 100; look(0, 9) = 200; year(0, 0) = 100; year(0, 1) = 200; count(0) = 1";
        runs.run("3: YEAR 0 is the first",
            one + "lived(0, 0, 0) = true; look(0, 8) = 0; look(0, 9) = 0; year(0, 1) = 0");
        runs.run("3: false: no such YEARS, ahead of 0", one + """
            lived(0, -1, -1) = false; lived(0, -1, 0) = false; lived(0, -1, 3000) = false
            """ + asBefore);
        runs.run("3: YEAR 3000 is the last", one + """
            lived(0, 3000, 3000) = true; look(0, 8) = 3000; look(0, 9) = 3000; year(0, 0) = 3000
            """);
        runs.run("3: false: no such YEARS, behind 3000", one + """
            lived(0, 3001, 3001) = false; lived(0, 3000, 3001) = false; lived(0, 0, 3001) = false
            """ + asBefore);
        runs.run("3: all YEARS",
            one + "lived(0, 0, 3000) = true; look(0, 8) = 0; look(0, 9) = 3000; year(0, 1) = 3000");
        runs.run("3: false: no such YEARS, to ahead of from", one + """
            lived(0, 6, 5) = false; lived(0, 1, 0) = false; lived(0, 3000, 2999) = false; lived(0, 3000, 0) = false
            """ + asBefore);
        runs.run("3: false: the least and the greatest int", one + """
            lived(0, MIN, MIN) = false; lived(0, MIN, 150) = false; lived(0, MIN, MAX) = false
            lived(0, 150, MIN) = false; lived(0, 150, MAX) = false; lived(0, MAX, MIN) = false
            lived(0, MAX, 150) = false; lived(0, MAX, MAX) = false
            """ + asBefore);
        runs.run("3: the same YEARS again", one + "lived(0, 100, 200) = true; " + asBefore);
        runs.run("3: a judgement that was asked before it comes anew", one + """
            forged() = 0; quarrel() = 0; deed(150, 150, 9); mark(0, 4, 1); year(0, 0) = 150
            lived(0, 100, 149) = true; forged() = 1; quarrel() = 3; year(0, 0) = NONE
            lived(0, 6, 5) = false; forged() = 1; lived(0, 150, 150) = true; forged() = 0; year(0, 1) = 150
            """);
    }

    private static void span() {
        String two = "deed(0, 0, 1); deed(1, 1, 1); deed(200, 200, 1); deed(201, 201, 1); "
            + "mark(0, 3, 0); mark(1, 3, 0); mark(2, 3, 0); mark(3, 3, 0); ";
        runs.run("6: W 0 is the least", two + "span(0) = true; count(4) = 0; agree(1) = 1; agree(3) = 0; agree(5) = 0");
        runs.run("6: W 1", two + "span(1) = true; count(4) = 1; agree(3) = 1; agree(5) = 0");
        runs.run("6: W 200 is the greatest", two + "span(200) = true; count(4) = 200; agree(5) = 1; agree(9) = 0");
        runs.run("6: W 199", two + "span(199) = true; count(4) = 199; agree(6) = 1; agree(5) = 0");
        runs.run("6: false: no such number, below 0",
            two + "span(-1) = false; count(4) = 40; agree(3) = 1; agree(5) = 0");
        runs.run("6: false: no such number, above 200", two + """
            span(201) = false; count(4) = 40; agree(5) = 0; agree(9) = 0; agree(12) = 1
            """);
        runs.run("6: false: the least and the greatest int", two + """
            span(MIN) = false; span(MAX) = false; count(4) = 40; agree(3) = 1; agree(5) = 0
            """);
        runs.run("6: false leaves the W that was told, not the first one", two + """
            span(7) = true; span(-1) = false; span(201) = false; span(MIN) = false; span(MAX) = false; count(4) = 7
            """);
        runs.run("6: the same W again", two + "span(40) = true; span(40) = true; count(4) = 40; agree(5) = 0");
        runs.run("6: a judgement that was asked before it comes anew", two + """
            forged() = 3; year(0, 0) = NONE; quarrel() = 5; span(201) = false; forged() = 3; span(200) = true
            forged() = 1; year(1, 1) = 1; quarrel() = 9; span(0) = true; forged() = 7; quarrel() = 3; year(3, 0) = 201
            """);
        runs.run("6: it holds for DEEDS that come later", """
            span(3) = true; deed(10, 10, 1); deed(13, 13, 1); deed(14, 14, 1)
            mark(0, 3, 7); mark(1, 3, 7); mark(2, 3, 7); agree(3) = 1; agree(5) = 0
            """);
    }
}

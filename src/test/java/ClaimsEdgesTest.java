/** The edges of promises 18 to 21 and of the terms behind them, a run for each sentence. */
public final class ClaimsEdgesTest {
    private static final Check check = new Check("ClaimsEdgesTest");
    private static final Runs runs = new Runs(check);

    /** DEED 0 can't be with DEED 1, and is the lighter one. */
    private static final String ONE_FORGED = "deed(0, 0, 1); deed(9, 9, 2); deed(0, 9, 2); mark(0, 4, 1); ";

    public static void main(String[] args) {
        claimNumbers();
        claimNoSuchDeed();
        claimAnew();
        clashOfHouses();
        clashOfParcels();
        clashOfTrueOnes();
        clashNumbers();
        mostClashes();
        court();
        courtNoSuchOnes();
        otherwise();
        otherwiseNumbers();
        check.end();
    }

    private static void claimNumbers() {
        String one = "deed(0, 9, 1); ";
        runs.run("18: HOUSE 0 is the first", one + "claim(0, 0, 5) = true; look(0, 6) = 0; look(0, 7) = 5");
        runs.run("18: HOUSE 3 is the last", one + "claim(0, 3, 5) = true; look(0, 6) = 3; look(0, 7) = 5");
        runs.run("18: false: no such HOUSE", one + """
            claim(0, -1, 5) = false; claim(0, 4, 5) = false; claim(0, MIN, 5) = false; claim(0, MAX, 5) = false
            look(0, 6) = NONE; look(0, 7) = 0
            """);
        runs.run("18: PARCELS 0 is the least", one + "claim(0, 2, 0) = true; look(0, 6) = 2; look(0, 7) = 0");
        runs.run("18: PARCELS 1023 is the greatest",
            one + "claim(0, 2, 1023) = true; look(0, 6) = 2; look(0, 7) = 1023");
        runs.run("18: false: no such PARCELS", one + """
            claim(0, 2, -1) = false; claim(0, 2, 1024) = false; claim(0, 2, 1025) = false; claim(0, 2, MIN) = false
            claim(0, 2, MAX) = false; look(0, 6) = NONE; look(0, 7) = 0
            """);
        runs.run("18: false leaves the CLAIM that was there", one + """
            claim(0, 1, 6) = true; claim(0, 4, 7) = false; claim(0, -1, 7) = false; claim(0, 2, 1024) = false
            claim(0, 2, -1) = false; claim(0, MAX, MIN) = false; look(0, 6) = 1; look(0, 7) = 6
            """);
    }

    private static void claimNoSuchDeed() {
        runs.run("18: false: no DEEDS at all", """
            claim(0, 0, 1) = false; claim(-1, 0, 1) = false; claim(MIN, 0, 1) = false; claim(MAX, 0, 1) = false
            deed(0, 9, 1); look(0, 6) = NONE; look(0, 7) = 0
            """);
        runs.run("18: false: no such DEED beside two", """
            2x deed(0, 9, 1); claim(-1, 0, 1) = false; claim(2, 0, 1) = false; claim(11, 0, 1) = false
            claim(12, 0, 1) = false; claim(MIN, 0, 1) = false; claim(MAX, 0, 1) = false; look(0, 6) = NONE
            look(1, 6) = NONE; deed(0, 9, 1) = 2; look(2, 6) = NONE; look(2, 7) = 0
            """);
        runs.run("18: the last of 12, and the next", """
            12x deed(0, 9, 1); claim(12, 1, 2) = false; claim(11, 1, 2) = true; look(11, 6) = 1; look(11, 7) = 2
            look(10, 6) = NONE; look(0, 6) = NONE
            """);
    }

    private static void claimAnew() {
        runs.run("Terms: one CLAIM a DEED, anew at any time", """
            2x deed(0, 9, 1); claim(0, 0, 3) = true; claim(1, 1, 2) = true; count(7) = 1; clash(0, 2) = 2
            claim(0, 2, 4) = true; look(0, 6) = 2; look(0, 7) = 4; count(7) = 0; clash(0, 0) = NONE
            claim(0, 2, 4) = true; claim(0, 3, 1023) = true; count(7) = 1; clash(0, 2) = 2
            """);
        runs.run("Terms: a CLAIM anew of no PARCELS", """
            2x deed(0, 9, 1); claim(0, 0, 3); claim(1, 1, 3); count(7) = 1; claim(1, 1, 0) = true; count(7) = 0
            look(1, 6) = 1; look(1, 7) = 0
            """);
        runs.run("18: a FORGED one may have a CLAIM",
            ONE_FORGED + "claim(0, 1, 2) = true; look(0, 6) = 1; look(0, 7) = 2");
    }

    private static void clashOfHouses() {
        runs.run("19: unlike HOUSES, each with each", """
            4x deed(0, 9, 1); claim(0, 0, 1); claim(1, 1, 1); claim(2, 2, 1); claim(3, 3, 1); count(7) = 6
            """);
        runs.run("19: like HOUSES are no CLASH", """
            2x deed(0, 9, 1); claim(0, 0, 1023); claim(1, 0, 1023); count(7) = 0; clash(0, 0) = NONE
            claim(0, 3, 1023); claim(1, 3, 1023); count(7) = 0
            """);
        runs.run("19: HOUSE 0 with no CLAIM is no CLASH", """
            2x deed(0, 9, 1); claim(0, 0, 1023); count(7) = 0; clash(0, 0) = NONE; clash(0, 2) = NONE
            claim(0, 3, 1023); count(7) = 0
            """);
    }

    private static void clashOfParcels() {
        runs.run("19: one PARCEL alike, the lowest", """
            2x deed(0, 9, 1); claim(0, 0, 1); claim(1, 1, 1023); clash(0, 2) = 1; count(7) = 1
            """);
        runs.run("19: one PARCEL alike, the highest", """
            2x deed(0, 9, 1); claim(0, 0, 1023); claim(1, 1, 512); clash(0, 2) = 512; count(7) = 1
            """);
        runs.run("19: PARCELS that both give, all of them", """
            2x deed(0, 9, 1); claim(0, 0, 1023); claim(1, 1, 1023); clash(0, 2) = 1023
            claim(0, 0, 853); claim(1, 1, 999); clash(0, 2) = 837
            """);
        runs.run("19: no PARCEL alike is no CLASH", """
            2x deed(0, 9, 1); claim(0, 0, 511); claim(1, 1, 512); count(7) = 0; clash(0, 0) = NONE; clash(0, 2) = NONE
            claim(1, 1, 0); count(7) = 0; claim(0, 0, 0); count(7) = 0
            """);
    }

    private static void clashOfTrueOnes() {
        String claims = "claim(0, 0, 7); claim(1, 1, 7); claim(2, 2, 7); ";
        runs.run("19: a FORGED one is in no CLASH", ONE_FORGED + claims + """
            forged() = 1; count(7) = 1; clash(0, 0) = 1; clash(0, 1) = 2; clash(1, 0) = NONE
            """);
        runs.run("19: once it is TRUE, it is", "person(0, 0); 3x deed(1, 9, 1); mark(0, 0, 0); " + claims + """
            count(7) = 1; lived(0, 1, 1); count(7) = 3; clash(0, 0) = 0; lived(0, 0, 0); count(7) = 1
            """);
        runs.run("19: all FORGED", """
            person(0, 0); 2x deed(1, 9, 1); mark(0, 0, 0); mark(1, 0, 0); claim(0, 0, 1); claim(1, 1, 1); count(7) = 0
            clash(0, 0) = NONE
            """);
    }

    private static void clashNumbers() {
        String three = "3x deed(0, 9, 1); claim(0, 0, 3); claim(1, 1, 6); claim(2, 2, 12); ";
        runs.run("19: by the lower DEED, then the other one", three + """
            count(7) = 2; clash(0, 0) = 0; clash(0, 1) = 1; clash(0, 2) = 2; clash(1, 0) = 1; clash(1, 1) = 2
            clash(1, 2) = 4; claim(0, 0, 15); count(7) = 3; clash(1, 0) = 0; clash(1, 1) = 2; clash(1, 2) = 12
            clash(2, 0) = 1
            """);
        runs.run("19: NONE for others: no such i", three + """
            clash(-1, 0) = NONE; clash(2, 0) = NONE; clash(2, 1) = NONE; clash(2, 2) = NONE; clash(66, 0) = NONE
            clash(MIN, 0) = NONE; clash(MAX, 0) = NONE; clash(-1, 2) = NONE
            """);
        runs.run("19: NONE for others: no such what", three + """
            clash(0, -1) = NONE; clash(0, 3) = NONE; clash(0, MIN) = NONE; clash(0, MAX) = NONE; clash(1, 3) = NONE
            """);
        runs.run("19: NONE without a CLASH",
            "12x deed(0, 9, 1); clash(0, 0) = NONE; clash(0, 1) = NONE; clash(0, 2) = NONE");
    }

    /** Three DEEDS for each HOUSE, all PARCELS: 54 of 66 pairs have unlike HOUSES. */
    private static void mostClashes() {
        StringBuilder told = new StringBuilder("12x deed(0, 9, 1); ");
        for (int d = 0; d < 12; d++) {
            told.append("claim(" + d + ", " + d % 4 + ", 1023) = true; ");
        }
        StringBuilder asked = new StringBuilder("count(7) = 54; ");
        int i = 0;
        for (int a = 0; a < 12; a++) {
            for (int b = a + 1; b < 12; b++) {
                if (a % 4 != b % 4) {
                    asked.append(String.format("clash(%1$d, 0) = %2$d; clash(%1$d, 1) = %3$d; ", i, a, b));
                    asked.append("clash(" + i + ", 2) = 1023; ");
                    i++;
                }
            }
        }
        runs.run("19: as many as there can be", told.toString() + asked);
        runs.run("19: NONE behind as many as there can be", told + """
            clash(53, 0) = 10; clash(53, 1) = 11; clash(54, 0) = NONE; clash(54, 1) = NONE; clash(54, 2) = NONE
            clash(-1, 0) = NONE
            """);
    }

    private static void court() {
        String one = "deed(0, 9, 1); ";
        runs.run("20: 0 not judged", one + "look(0, 4) = 0; court(0, 0) = true; look(0, 4) = 0; otherwise(0) = NONE");
        runs.run("20: 1 TRUE", one + "court(0, 1) = true; look(0, 4) = 1; otherwise(0) = NONE");
        runs.run("20: 2 FORGED", one + "court(0, 2) = true; look(0, 4) = 2; otherwise(0) = 0");
        runs.run("20: 0 not any more", one + """
            court(0, 2) = true; court(0, 0) = true; look(0, 4) = 0; otherwise(0) = NONE; court(0, 1) = true
            court(0, 0) = true; look(0, 4) = 0
            """);
        runs.run("20: the same again",
            one + "court(0, 2) = true; court(0, 2) = true; look(0, 4) = 2; otherwise(1) = NONE");
        runs.run("20: what a COURT holds changes no judgement", ONE_FORGED + """
            court(0, 1) = true; court(1, 2) = true; forged() = 1; year(1, 0) = 9; count(5) = 1
            """);
    }

    private static void courtNoSuchOnes() {
        runs.run("20: false: no such judgement", """
            deed(0, 9, 1); court(0, 2) = true; court(0, -1) = false; court(0, 3) = false; court(0, MIN) = false
            court(0, MAX) = false; look(0, 4) = 2
            """);
        runs.run("20: false: no DEEDS at all", """
            court(0, 0) = false; court(0, 2) = false; court(-1, 2) = false; court(MIN, 2) = false
            court(MAX, 2) = false; deed(0, 9, 1) = 0; look(0, 4) = 0; otherwise(0) = NONE
            """);
        runs.run("20: false: no such DEED beside two", """
            2x deed(0, 9, 1); court(-1, 2) = false; court(2, 2) = false; court(11, 2) = false; court(12, 2) = false
            court(MIN, 2) = false; court(MAX, 2) = false; look(0, 4) = 0; look(1, 4) = 0; deed(0, 9, 1) = 2
            look(2, 4) = 0; otherwise(0) = NONE
            """);
        runs.run("20: the last of 12, and the next", """
            12x deed(0, 9, 1); court(12, 2) = false; court(11, 2) = true; look(11, 4) = 2; look(10, 4) = 0
            otherwise(0) = 11
            """);
    }

    private static void otherwise() {
        runs.run("21: a FORGED one held for TRUE", ONE_FORGED + "court(0, 1); otherwise(0) = 0; otherwise(1) = NONE");
        runs.run("21: a TRUE one held for FORGED", ONE_FORGED + "court(1, 2); otherwise(0) = 1; otherwise(1) = NONE");
        runs.run("21: NONE: held for what they are",
            ONE_FORGED + "court(0, 2); court(1, 1); court(2, 1); otherwise(0) = NONE");
        runs.run("21: NONE: not judged", ONE_FORGED + "otherwise(0) = NONE; court(0, 0); otherwise(0) = NONE");
        runs.run("21: a judgement that comes anew", "person(0, 0); deed(1, 9, 1); mark(0, 0, 0); " + """
            court(0, 1); otherwise(0) = 0; lived(0, 1, 1); otherwise(0) = NONE; court(0, 2); otherwise(0) = 0
            """);
    }

    private static void otherwiseNumbers() {
        runs.run("21: NONE: no such i", ONE_FORGED + """
            court(0, 1); court(2, 2); otherwise(-1) = NONE; otherwise(0) = 0; otherwise(1) = 2; otherwise(2) = NONE
            otherwise(11) = NONE; otherwise(12) = NONE; otherwise(MIN) = NONE; otherwise(MAX) = NONE
            """);
        runs.run("21: NONE: no DEEDS",
            "otherwise(-1) = NONE; otherwise(0) = NONE; otherwise(MIN) = NONE; otherwise(MAX) = NONE");
        runs.run("21: all of 12", """
            12x deed(0, 9, 1); court(0, 2); court(1, 2); court(2, 2); court(3, 2); court(4, 2); court(5, 2)
            court(6, 2); court(7, 2); court(8, 2); court(9, 2); court(10, 2); court(11, 2); otherwise(0) = 0
            otherwise(1) = 1
            otherwise(5) = 5; otherwise(10) = 10; otherwise(11) = 11; otherwise(12) = NONE; otherwise(-1) = NONE
            """);
    }
}

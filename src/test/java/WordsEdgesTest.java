/** The edges of promises 15 to 17 and of the terms behind them, a run for each sentence. */
public final class WordsEdgesTest {
    private static final Check check = new Check("WordsEdgesTest");
    private static final Runs runs = new Runs(check);

    public static void main(String[] args) {
        feed();
        bytesOfEachInt();
        howManyLetters();
        emptyThen();
        noSuchOnes();
        notSoMany();
        noLetters();
        modelThatIsNone();
        modelOfLikeOnes();
        modelPlaces();
        check.end();
    }

    private static void feed() {
        runs.run("15: how many it has", """
            feed("a") = 20; count(6) = 20; feed("a") = 40; count(6) = 40
            """);
        runs.run("15: NONE if that would be more than 40", """
            2x feed("a"); feed("a") = NONE; count(6) = 40; 3x feed("a") = NONE; count(6) = 40
            """);
        runs.run("15: a refused one leaves the tape's bytes", """
            2x deed(0, 9, 1); feed("abcdefghijklmnopqrst"); words(1, 20); feed("abcdefghijklmnopqrst"); feed("u")
            feed("vwxyzvwxyzvwxyzvwxyz") = NONE; words(0, 20) = true; model(0, 0) = 1; model(0, 1) = 20
            """);
        runs.run("15: behind the tape", """
            2x deed(0, 9, 1); feed("aaaaaaaaaaaaaaaaaaaa"); words(1, 20); feed("aaaaaaaaaaaaaaaaaaaa")
            feed("bbbbbbbbbbbbbbbbbbbb"); words(0, 20) = true; model(0, 1) = 20
            """);
        runs.run("15: any ints", """
            feed(MIN, MIN, MIN, MIN, MIN) = 20; feed(MAX, MAX, MAX, MAX, MAX) = 40; feed(0, 0, 0, 0, 0) = NONE
            """);
        runs.run("15: any ints, more of them",
            "feed(0, -1, MIN, MAX, 1) = 20; feed(-1, -1, -1, -1, -1) = 40; count(6) = 40");
        runs.run("15: no DEED is needed", "feed(\"a\") = 20; count(3) = 0; count(6) = 20");
        runs.run("15: once it is empty it takes 40 again", """
            deed(0, 9, 1); 2x feed("a"); words(0, 1); feed("a") = 20; feed("a") = 40; feed("a") = NONE
            """);
    }

    private static void bytesOfEachInt() {
        String row = "feed(\"abcdefghijklmnopqrst\"); words(1, 20); ";
        runs.run("15: the highest of each int first", "2x deed(0, 9, 1); " + row + """
            feed(0x61626364, 0x65666768, 0x696a6b6c, 0x6d6e6f70, 0x71727374) = 20; words(0, 20) = true
            model(0, 0) = 1; model(0, 1) = 20; model(0, 2) = 0; model(0, 3) = 0
            """);
        String[] strangers = {
            "feed(0x61616161, 0x61616161, 0x61616161, 0x61616161, 0x616161ff)",
            "feed(0xff616161, 0x61616161, 0x61616161, 0x61616161, 0x61616161)",
            "feed(0x61616161, 0x61ff6161, 0x61616161, 0x61616161, 0x61616161)",
            "feed(0x61616161, 0x61616161, 0x61616161, 0x61616161, 0xff616161)",
        };
        int[] places = {19, 0, 5, 16};
        for (int i = 0; i < strangers.length; i++) {
            runs.run("15: a byte above 127 touches no other, place " + places[i],
                "deed(0, 9, 1); " + strangers[i] + "; words(0, " + (places[i] + 1) + ") = false; look(0, 5) = 0; "
                + strangers[i] + "; words(0, " + places[i] + ") = true; look(0, 5) = " + places[i]);
        }
    }

    private static void howManyLetters() {
        String tape = "deed(0, 9, 1); feed(\"abcdefghijklmnopqrst\"); ";
        runs.run("16: no letters", tape + "words(0, 0) = true; look(0, 5) = 0");
        runs.run("16: one letter", tape + "words(0, 1) = true; look(0, 5) = 1");
        runs.run("16: 19 letters", tape + "words(0, 19) = true; look(0, 5) = 19");
        runs.run("16: 20 letters, all that the tape has", tape + "words(0, 20) = true; look(0, 5) = 20");
        runs.run("16: 20 letters of 40", tape + "feed(\"a\"); words(0, 20) = true; look(0, 5) = 20");
        runs.run("16: no letters take those away that were there", tape + """
            words(0, 20) = true; words(0, 0) = true; look(0, 5) = 0
            """);
        runs.run("16: fewer letters take the place of more", tape + """
            words(0, 20) = true; deed(0, 9, 1); feed("abcdefghijklmnopqrst"); words(1, 20); model(1, 1) = 20
            feed("xbcdefghijklmnopqrst"); words(0, 4) = true; look(0, 5) = 4; model(1, 0) = NONE; model(0, 0) = NONE
            feed("xbcdefghijklmnopqrst"); words(0, 5) = true; model(1, 1) = 4
            """);
        runs.run("16: each DEED has its own", """
            12x deed(0, 9, 1); feed("aaaaaaaaaaaaaaaaaaaa"); words(0, 20); feed("bbbbbbbbbbbbbbbbbbbb"); words(11, 19)
            feed("cccccccccccccccccccc"); words(10, 18); look(0, 5) = 20; look(11, 5) = 19; look(10, 5) = 18
            look(1, 5) = 0; look(9, 5) = 0
            model(0, 0) = NONE; model(11, 0) = NONE; model(10, 0) = NONE
            feed("cccccccccccccccccccc"); words(1, 20); model(1, 0) = 10; model(1, 1) = 18
            """);
    }

    private static void emptyThen() {
        String tape = "deed(0, 9, 1); feed(\"abcdefghijklmnopqrst\"); ";
        runs.run("16: the tape is empty then, of 20 bytes",
            tape + "words(0, 4) = true; count(6) = 0; words(0, 1) = false");
        runs.run("16: the tape is empty then, of 40 bytes", tape + "feed(\"a\"); words(0, 4) = true; count(6) = 0");
        runs.run("16: the tape is empty then, by no letters",
            tape + "words(0, 0) = true; count(6) = 0; words(0, 1) = false");
        runs.run("16: no letters of an empty tape", "deed(0, 9, 1); words(0, 0) = true; count(6) = 0; look(0, 5) = 0");
        runs.run("16: new bytes are the first ones then", tape + """
            words(0, 8) = true; deed(0, 9, 1); feed("qqqqefgh"); words(1, 8) = true; model(1, 0) = 0; model(1, 1) = 4
            model(1, 2) = 4; model(1, 3) = 4
            """);
    }

    private static void noSuchOnes() {
        String tape = "2x deed(0, 9, 1); feed(\"aaaaaaaa\"); words(0, 8); feed(\"bbbbbbbbbbbbbbbbbbbb\"); ";
        String stays = "count(6) = 20; look(0, 5) = 8; look(1, 5) = 0; words(1, 20) = true; look(1, 5) = 20";
        runs.run("16: false: no such DEED: the tape stays", tape + """
            words(-1, 4) = false; words(2, 4) = false; words(11, 4) = false; words(12, 4) = false
            words(MIN, 4) = false; words(MAX, 4) = false; words(2, 0) = false; words(-1, 0) = false
            words(2, 20) = false
            """ + stays);
        runs.run("16: false: no such number: the tape stays", tape + """
            words(0, -1) = false; words(0, 21) = false; words(1, 21) = false; words(0, MIN) = false
            words(0, MAX) = false; words(2, 21) = false; words(-1, -1) = false
            """ + stays);
        runs.run("16: false: 21 of 40: the tape stays", tape + """
            feed("bbbbbbbbbbbbbbbbbbbb"); words(0, 21) = false; words(0, 40) = false; words(0, 41) = false
            words(0, -1) = false; words(2, 1) = false; count(6) = 40; look(0, 5) = 8; feed("c") = NONE
            words(1, 20) = true; count(6) = 0
            """);
        runs.run("16: false: no DEEDS at all: the tape stays", """
            feed("abcd"); words(0, 0) = false; words(0, 4) = false; words(0, 5) = false; count(6) = 20
            deed(0, 9, 1) = 0; words(0, 4) = true; look(0, 5) = 4
            """);
        runs.run("16: false: no such ones goes before no letter", """
            deed(0, 9, 1); feed("1234"); words(1, 4) = false; words(0, 21) = false; count(6) = 20
            """);
        runs.run("16: the last of 12, and the next", """
            12x deed(0, 9, 1); feed("abcd"); words(12, 4) = false; count(6) = 20; words(11, 4) = true; look(11, 5) = 4
            """);
    }

    private static void notSoMany() {
        String one = "deed(0, 9, 1); feed(\"abcdefgh\"); words(0, 8); ";
        runs.run("16: false: it has not so many, one of none",
            one + "words(0, 1) = false; count(6) = 0; look(0, 5) = 8");
        runs.run("16: false: it has not so many, 20 of none",
            one + "words(0, 20) = false; count(6) = 0; look(0, 5) = 8");
        runs.run("16: it has not so many: old bytes don't come back", one + """
            words(0, 8) = false; feed("zzzz") = 20; count(6) = 20; words(0, 4) = true; look(0, 5) = 4
            """);
    }

    /** Numbers 96 and 123 stand beside a and z; 225 and 250 are a and z but for their highest bit. */
    private static void noLetters() {
        int[] strangers = {96, 123, 0, 1, 32, 48, 65, 90, 127, 128, 225, 250, 255};
        for (int b : strangers) {
            String first = String.format("feed(0x%02x626364, 0x65666768, 0, 0, 0)", b);
            String fourth = String.format("feed(0x616263%02x, 0x65666768, 0, 0, 0)", b);
            String last = String.format("feed(0x61616161, 0x61616161, 0x61616161, 0x61616161, 0x616161%02x)", b);
            String tape = "2x deed(0, 9, 1); feed(\"qrstuv\"); words(0, 6); feed(\"qrstuv\"); words(1, 6); ";
            String stay = "count(6) = 0; look(0, 5) = 6; model(0, 0) = 1; model(0, 1) = 6; words(0, 1) = false; ";
            runs.run("16: false: byte " + b + " is no letter, the first: WORDS stay, the tape is empty",
                tape + first + "; words(0, 8) = false; " + stay + first + "; words(0, 1) = false; " + stay);
            runs.run("16: false: byte " + b + " is no letter, the fourth: WORDS stay, the tape is empty",
                tape + fourth + "; words(0, 4) = false; " + stay + fourth + "; words(0, 8) = false; " + stay);
            runs.run("16: false: byte " + b + " is no letter, the last of 20: WORDS stay, the tape is empty",
                tape + last + "; words(0, 20) = false; " + stay);
            runs.run("16: byte " + b + " is not asked behind the first n",
                tape + fourth + "; words(0, 3) = true; look(0, 5) = 3; "
                + last + "; words(0, 19) = true; look(0, 5) = 19; "
                + first + "; words(0, 0) = true; look(0, 5) = 0");
        }
        runs.run("16: false: no letter, of 40 bytes: the tape is empty", """
            deed(0, 9, 1); feed("ab1d"); feed("abcd"); words(0, 4) = false; count(6) = 0; look(0, 5) = 0
            feed("a") = 20
            """);
        runs.run("16: a to z are letters", """
            deed(0, 9, 1); feed("abcdefghijklmnopqrst"); words(0, 20) = true; feed("uvwxyz"); words(0, 6) = true
            feed("azazazazazazazazazaz"); words(0, 20) = true
            """);
    }

    private static void modelThatIsNone() {
        String two = "2x deed(0, 9, 1); feed(\"abcdefgh\"); words(0, 8); feed(\"xxcdefyy\"); words(1, 8); ";
        runs.run("17: NONE: no such DEED", two + """
            model(-1, 0) = NONE; model(2, 0) = NONE; model(2, 1) = NONE; model(11, 0) = NONE; model(12, 0) = NONE
            model(MIN, 0) = NONE; model(MAX, 3) = NONE; model(0, 0) = 1
            """);
        runs.run("17: NONE: no such what", two + """
            model(0, -1) = NONE; model(0, 4) = NONE; model(0, MIN) = NONE; model(0, MAX) = NONE; model(0, 3) = 2
            """);
        runs.run("17: NONE: there is none, one DEED alone", """
            deed(0, 9, 1); feed("abcdabcd"); words(0, 8); model(0, 0) = NONE; model(0, 1) = NONE; model(0, 2) = NONE
            model(0, 3) = NONE
            """);
        runs.run("17: NONE: there is none, no WORDS", two + """
            words(1, 0); model(0, 0) = NONE; model(0, 1) = NONE; model(1, 0) = NONE; model(1, 3) = NONE
            """);
        runs.run("17: NONE: there is none, three alike", """
            2x deed(0, 9, 1); feed("abcdefgh"); words(0, 8); feed("abcxefg"); words(1, 7)
            model(0, 0) = NONE; model(0, 1) = NONE; model(0, 2) = NONE; model(0, 3) = NONE; model(1, 0) = NONE
            """);
        runs.run("17: NONE: there is none, WORDS of three letters", """
            2x deed(0, 9, 1); feed("abc"); words(0, 3); feed("abc"); words(1, 3); model(0, 0) = NONE
            model(1, 0) = NONE
            """);
        runs.run("17: NONE: four alike, but not in a row", """
            2x deed(0, 9, 1); feed("abxcd"); words(0, 5); feed("abycd"); words(1, 5); model(0, 0) = NONE
            model(1, 0) = NONE
            """);
        runs.run("17: four in a row at least",
            two + "model(0, 0) = 1; model(0, 1) = 4; model(1, 0) = 0; model(1, 1) = 4");
        runs.run("17: WORDS of four letters", """
            2x deed(0, 9, 1); feed("abcd"); words(0, 4); feed("abcd"); words(1, 4)
            model(0, 0) = 1; model(0, 1) = 4; model(0, 2) = 0; model(0, 3) = 0; model(1, 0) = 0
            """);
        runs.run("17: WORDS of twenty letters", """
            2x deed(0, 9, 1); feed("abcdefghijklmnopqrst"); words(0, 20); feed("abcdefghijklmnopqrst"); words(1, 20)
            model(0, 0) = 1; model(0, 1) = 20; model(0, 2) = 0; model(0, 3) = 0; model(1, 1) = 20
            """);
        runs.run("17: letters behind one DEED's WORDS are not the next one's", """
            4x deed(0, 9, 1); feed("aaaaaaaaaaaaaaaaaaab"); words(0, 20); feed("cdezzzzzzzzzzzzzzzzz"); words(1, 20)
            feed("bcdey"); words(2, 5); feed("yyyy"); words(3, 4); model(2, 0) = NONE; model(0, 0) = NONE
            """);
    }

    private static void modelOfLikeOnes() {
        String some = "12x deed(0, 9, 1); feed(\"abcdefgh\"); words(5, 8); feed(\"bcde\"); words(9, 4); ";
        runs.run("17: of all other DEEDS, a higher one", some + "model(5, 0) = 9; model(5, 2) = 1; model(9, 0) = 5");
        runs.run("17: of like ones the lowest", some + """
            feed("efgh"); words(7, 4); model(5, 0) = 7; feed("abcd"); words(0, 4); model(5, 0) = 0; model(5, 2) = 0
            feed("zzzz"); words(0, 4); model(5, 0) = 7; model(5, 2) = 4
            """);
        runs.run("17: most letters, though in the highest", some + """
            feed("defgh"); words(11, 5); model(5, 0) = 11; model(5, 1) = 5; model(5, 2) = 3; model(5, 3) = 0
            """);
        runs.run("17: most letters, though a lower one has four", some + """
            feed("abcde"); words(0, 5); model(5, 0) = 0; model(5, 1) = 5; feed("abcdef"); words(4, 6); model(5, 0) = 4
            model(0, 0) = 4; model(0, 1) = 5; model(4, 0) = 5; model(4, 1) = 6
            """);
        runs.run("17: FORGED ones are models, too", """
            person(0, 0); 2x deed(1, 9, 1); mark(0, 0, 0); forged() = 1; feed("abcd"); words(0, 4); feed("abcd")
            words(1, 4); model(1, 0) = 0; model(0, 0) = 1
            """);
    }

    private static void modelPlaces() {
        runs.run("17: where they begin in d, the first such place", """
            2x deed(0, 9, 1); feed("xabcdyabcdzabcd"); words(0, 15); feed("abcd"); words(1, 4)
            model(0, 2) = 1; model(0, 3) = 0; model(1, 2) = 0; model(1, 3) = 1
            """);
        runs.run("17: where in THE MODEL, the first place there", """
            2x deed(0, 9, 1); feed("abcd"); words(0, 4); feed("xxabcdyabcdzabcd"); words(1, 16)
            model(0, 2) = 0; model(0, 3) = 2; model(1, 2) = 2; model(1, 3) = 0
            """);
        runs.run("17: the last place that there is, in both", """
            2x deed(0, 9, 1); feed("qqqqqqqqqqqqqqqqabcd"); words(0, 20); feed("rrrrrrrrrrrrrrrrabcd"); words(1, 20)
            model(0, 1) = 4; model(0, 2) = 16; model(0, 3) = 16
            """);
        runs.run("17: the last place in one, the first in the other", """
            2x deed(0, 9, 1); feed("qqqqqqqqqqqqqqqqabcd"); words(0, 20); feed("abcdrrrrrrrrrrrrrrrr"); words(1, 20)
            model(0, 1) = 4; model(0, 2) = 16; model(0, 3) = 0; model(1, 2) = 0; model(1, 3) = 16
            """);
        runs.run("17: one letter all along", """
            2x deed(0, 9, 1); feed("aaaaaaaaaaaaaaaaaaaa"); words(0, 20); feed("baaaaaaaaaaaaaaaaaaa"); words(1, 20)
            model(0, 1) = 19; model(0, 2) = 0; model(0, 3) = 1; model(1, 2) = 1; model(1, 3) = 0
            """);
    }
}

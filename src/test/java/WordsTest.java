/** Promises 15 to 17: feed, words, model. */
public final class WordsTest {
    private static final Check check = new Check("WordsTest");

    public static void main(String[] args) {
        feed();
        bytesInOrder();
        words();
        wordsThatAreNone();
        model();
        modelPlaces();
        check.end();
    }

    private static int four(String text, int at) {
        int bytes = 0;
        for (int i = at; i < at + 4; i++) {
            bytes = bytes << 8 | (i < text.length() ? text.charAt(i) & 255 : 0);
        }
        return bytes;
    }

    private static int feed(DeedBench x, String text) {
        return x.feed(four(text, 0), four(text, 4), four(text, 8), four(text, 12), four(text, 16));
    }

    private static void write(DeedBench x, int d, String text) {
        feed(x, text);
        check.yes("words(" + d + ") '" + text + "'", x.words(d, text.length()));
    }

    private static void feed() {
        DeedBench x = new DeedBench();
        check.same("feed", feed(x, "a"), 20);
        check.same("count(6)", x.count(6), 20);
        check.same("feed", feed(x, "b"), 40);
        check.same("feed beyond 40", feed(x, "c"), DeedBench.NONE);
        check.same("count(6)", x.count(6), 40);
        x.deed(0, 1, 1);
        check.yes("words(0, 1)", x.words(0, 1));
        check.same("count(6) after words", x.count(6), 0);
        check.same("feed", feed(x, "d"), 20);
    }

    private static void bytesInOrder() {
        DeedBench x = new DeedBench();
        x.deed(0, 1, 1);
        x.deed(0, 1, 1);
        write(x, 0, "abcdefghijklmnopqrst");
        for (int at = 0; at <= 16; at += 4) {
            String part = "abcdefghijklmnopqrst".substring(at, at + 4);
            write(x, 1, part);
            check.same("model(1, 0) of '" + part + "'", x.model(1, 0), 0);
            check.same("model(1, 3) of '" + part + "'", x.model(1, 3), at);
        }
        feed(x, "vwxyzvwxyzvwxyzvwxyz");
        feed(x, "abcdefghijklmnopqrst");
        check.yes("the first bytes, not the last", x.words(1, 20));
        check.same("model(1, 0)", x.model(1, 0), DeedBench.NONE);
        check.same("look(1, 5)", x.look(1, 5), 20);
    }

    private static void words() {
        DeedBench x = new DeedBench();
        feed(x, "abcdefghijklmnopqrst");
        check.no("words(0, 1) without deeds", x.words(0, 1));
        check.same("the tape stays", x.count(6), 20);
        x.deed(0, 1, 1);
        check.no("words(-1, 1)", x.words(-1, 1));
        check.no("words(1, 1)", x.words(1, 1));
        check.no("words(0, -1)", x.words(0, -1));
        check.no("words(0, 21)", x.words(0, 21));
        check.same("the tape stays", x.count(6), 20);
        feed(x, "abcdefghijklmnopqrst");
        check.no("words(0, 21) of 40", x.words(0, 21));
        check.same("the tape stays", x.count(6), 40);
        check.yes("words(0, 20)", x.words(0, 20));
        check.same("empty then", x.count(6), 0);
        check.same("look(0, 5)", x.look(0, 5), 20);
        check.no("words(0, 1) of nothing", x.words(0, 1));
        check.same("WORDS stay", x.look(0, 5), 20);
        check.yes("words(0, 0) of nothing", x.words(0, 0));
        check.same("look(0, 5)", x.look(0, 5), 0);
        feed(x, "!!");
        check.yes("words(0, 0)", x.words(0, 0));
        check.same("empty then", x.count(6), 0);
        check.no("words(0, MAX)", x.words(0, Integer.MAX_VALUE));
        check.no("words(0, MIN)", x.words(0, Integer.MIN_VALUE));
    }

    private static void wordsThatAreNone() {
        char[] strangers = {'`', '{', 'A', 'Z', ' ', '0', 0, 225, 250, 255};
        for (char stranger : strangers) {
            DeedBench x = new DeedBench();
            x.deed(0, 1, 1);
            write(x, 0, "azaz");
            feed(x, "abcde" + stranger);
            check.no("words with byte " + (int) stranger, x.words(0, 6));
            check.same("empty then", x.count(6), 0);
            check.same("WORDS stay", x.look(0, 5), 4);
            feed(x, stranger + "bcde");
            check.no("words that begin with byte " + (int) stranger, x.words(0, 5));
            check.same("WORDS stay", x.look(0, 5), 4);
            feed(x, "abcde" + stranger);
            check.yes("words ahead of byte " + (int) stranger, x.words(0, 5));
            check.same("look(0, 5)", x.look(0, 5), 5);
        }
        DeedBench x = new DeedBench();
        x.deed(0, 1, 1);
        x.deed(0, 1, 1);
        write(x, 0, "azazaz");
        write(x, 1, "azazaz");
        feed(x, "bbb?bb");
        check.no("words(0, 6)", x.words(0, 6));
        check.same("no letter of it came in", x.model(0, 1), 6);
    }

    private static void model() {
        DeedBench x = new DeedBench();
        check.same("model(0, 0) of none", x.model(0, 0), DeedBench.NONE);
        for (int d = 0; d < 12; d++) {
            x.deed(0, 1, 1);
        }
        check.same("model(0, 0) without words", x.model(0, 0), DeedBench.NONE);
        write(x, 5, "xxabcdyy");
        write(x, 3, "abc");
        check.same("three alike are too few", x.model(5, 0), DeedBench.NONE);
        write(x, 7, "qqqabcdq");
        check.same("four are enough", x.model(5, 0), 7);
        check.same("model(5, 1)", x.model(5, 1), 4);
        check.same("model(5, 2)", x.model(5, 2), 2);
        check.same("model(5, 3)", x.model(5, 3), 3);
        check.same("model(7, 0)", x.model(7, 0), 5);
        check.same("model(7, 2)", x.model(7, 2), 3);
        check.same("model(7, 3)", x.model(7, 3), 2);
        write(x, 2, "abcd");
        check.same("of like ones the lowest", x.model(5, 0), 2);
        check.same("model(2, 0)", x.model(2, 0), 5);
        write(x, 11, "abcdyzzz");
        check.same("most letters before the lowest", x.model(5, 0), 11);
        check.same("model(5, 1)", x.model(5, 1), 5);
        check.same("model(5, 4)", x.model(5, 4), DeedBench.NONE);
        check.same("model(5, -1)", x.model(5, -1), DeedBench.NONE);
        check.same("model(12, 0)", x.model(12, 0), DeedBench.NONE);
        check.same("model(-1, 0)", x.model(-1, 0), DeedBench.NONE);
        for (int what = 0; what < 4; what++) {
            check.same("model(3, " + what + ")", x.model(3, what), DeedBench.NONE);
        }
    }

    private static void modelPlaces() {
        DeedBench x = new DeedBench();
        x.deed(0, 1, 1);
        x.deed(0, 1, 1);
        write(x, 0, "abcdzefghzabcd");
        write(x, 1, "efghyabcdyefghyabcd");
        check.same("the first place in it", x.model(0, 2), 0);
        check.same("the same letters' first place there", x.model(0, 3), 5);
        check.same("the first place in it", x.model(1, 2), 0);
        check.same("the same letters' first place there", x.model(1, 3), 5);
        check.same("model(1, 1)", x.model(1, 1), 4);
        write(x, 0, "abcdefghijklmnopqrst");
        write(x, 1, "abcdefghijklmnopqrst");
        check.same("all twenty", x.model(0, 1), 20);
        write(x, 0, "aaaaaaaaaaaaaaaaaaaa");
        write(x, 1, "baaaaaa");
        check.same("model(0, 1)", x.model(0, 1), 6);
        check.same("model(0, 2)", x.model(0, 2), 0);
        check.same("model(0, 3)", x.model(0, 3), 1);
        write(x, 0, "baaaa");
        write(x, 1, "caaaa");
        check.same("to the end of both", x.model(0, 1), 4);
        write(x, 1, "caaa");
        check.same("the model's old letters are gone", x.model(0, 1), DeedBench.NONE);
        write(x, 1, "caaaa");
        write(x, 0, "baaa");
        check.same("its own old letters are gone", x.model(0, 1), DeedBench.NONE);
    }
}

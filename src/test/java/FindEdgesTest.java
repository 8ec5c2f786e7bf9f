import java.util.function.Function;

/** Promises 33 to 40, sentence by sentence: the boundary cases of the places of words, tapes and signs. */
public final class FindEdgesTest {
    private static final int NONE = Check.NONE;
    private static final int GREATEST = Edge.GREATEST;
    private static final int LEAST = Edge.LEAST;

    public static void main(String[] args) {
        find();
        findFrom();
        findFromAnyNumber();
        findLast();
        findLastFrom();
        findLastFromAnyNumber();
        findTape();
        findTapeLast();
        findSign();
        has();
        Sentences.allNamed(33, 40);
        Check.end();
    }

    private static void asks(String row, String call, Function<Tapebuffer, Object> question, Object answer) {
        Edge.asks(call + " of \"" + row + "\"", Check.with(row), question, answer);
    }

    /** Signs 0 up to a length of 200, with a word at its end. */
    private static Tapebuffer wordAtEnd(int word) {
        Tapebuffer x = Edge.furnished();
        x.setLength(0, 0);
        x.setLength(0, 200 - x.word(word).length());
        x.addWord(0, word);
        return x;
    }

    private static void find() {
        Sentences.of(33, "Returns the first PLACE from which on the WORD stands there");
        asks("a", "find(0, 0)", x -> x.find(0, 0), 0);
        asks("xbcbc", "find(0, 6)", x -> x.find(0, 6), 1);
        asks("bcbc", "find(0, 6)", x -> x.find(0, 6), 0);
        asks("bbc", "find(0, 6), its first sign twice", x -> x.find(0, 6), 1);
        asks("xcbdaadd", "find(0, 9999)", x -> x.find(0, 9999), 1);
        Edge.asks("find(0, 9999), at the end of 200", wordAtEnd(9999), x -> x.find(0, 9999), 193);
        Edge.asks("find(0, 0), at the end of 200", wordAtEnd(0), x -> x.find(0, 0), 199);
        Edge.asks("find(3, 27)", Edge::furnished, x -> x.find(3, 27), 0);
        Sentences.of(33, "NONE without");
        asks("", "find(0, 0)", x -> x.find(0, 0), NONE);
        asks("b", "find(0, 6), longer than the tape", x -> x.find(0, 6), NONE);
        asks("xb", "find(0, 6), cut off by the end", x -> x.find(0, 6), NONE);
        asks("cb", "find(0, 6), turned", x -> x.find(0, 6), NONE);
        asks("bxc", "find(0, 6), a sign between", x -> x.find(0, 6), NONE);
        asks("BC", "find(0, 6), other letters", x -> x.find(0, 6), NONE);
        asks("bcdaadd", "find(0, 9999), all but the first", x -> x.find(0, 9999), NONE);
        asks("cbdaada", "find(0, 9999), all but the last", x -> x.find(0, 9999), NONE);
        Edge.tapes(33, "find", (x, tape) -> x.find(tape, 0));
        Edge.words(33, "find", (x, word) -> x.find(0, word));
        Edge.argument("find, empty, of word", Edge::empty, 0, 9999, (x, word) -> x.find(0, word));
    }

    private static void findFrom() {
        Sentences.of(34, "Returns the first such PLACE that is from or more");
        int[] places = {0, 3, 3, 3, 5, 5, NONE, NONE, NONE};
        for (int from = 0; from < places.length; from++) {
            int first = from;
            asks("bcxbcbc", "findFrom(0, 6, " + from + ")", x -> x.findFrom(0, 6, first), places[from]);
        }
        asks("bbb", "findFrom(0, 5, 1), over another one", x -> x.findFrom(0, 5, 1), 1);
        Sentences.of(34, "NONE without");
        asks("bcxbcbc", "findFrom(0, 6, 6), behind the last", x -> x.findFrom(0, 6, 6), NONE);
        asks("bbb", "findFrom(0, 5, 2), cut off by the end", x -> x.findFrom(0, 5, 2), NONE);
        asks("", "findFrom(0, 0, 0)", x -> x.findFrom(0, 0, 0), NONE);
        asks("xyz", "findFrom(0, 0, 0)", x -> x.findFrom(0, 0, 0), NONE);
        Edge.tapes(34, "findFrom", (x, tape) -> x.findFrom(tape, 0, 0));
        Edge.words(34, "findFrom", (x, word) -> x.findFrom(0, word, 0));
        Edge.words(34, "findFrom the least", (x, word) -> x.findFrom(0, word, LEAST));
        Edge.words(34, "findFrom the greatest", (x, word) -> x.findFrom(0, word, GREATEST));
    }

    /** from is a number: none is wrong. */
    private static void findFromAnyNumber() {
        Sentences.of(34, "that is from or more");
        for (int from : new int[] {LEAST, LEAST + 1, -200, -1, 0}) {
            asks("bcxbc", "findFrom(0, 6, " + from + ")", x -> x.findFrom(0, 6, from), 0);
            Edge.asks("findFrom(0, 9999, " + from + "), at the end of 200", wordAtEnd(9999),
                x -> x.findFrom(0, 9999, from), 193);
        }
        for (int from : new int[] {192, 193}) {
            Edge.asks("findFrom(0, 9999, " + from + "), at the end of 200", wordAtEnd(9999),
                x -> x.findFrom(0, 9999, from), 193);
        }
        for (int from : new int[] {194, 199, 200, 201, GREATEST - 1, GREATEST}) {
            Edge.asks("findFrom(0, 9999, " + from + "), at the end of 200", wordAtEnd(9999),
                x -> x.findFrom(0, 9999, from), NONE);
            asks("", "findFrom(0, 0, " + from + ")", x -> x.findFrom(0, 0, from), NONE);
        }
    }

    private static void findLast() {
        Sentences.of(35, "Returns the last such PLACE");
        asks("a", "findLast(0, 0)", x -> x.findLast(0, 0), 0);
        asks("bcbcx", "findLast(0, 6)", x -> x.findLast(0, 6), 2);
        asks("bcbc", "findLast(0, 6)", x -> x.findLast(0, 6), 2);
        asks("bcc", "findLast(0, 6), its last sign twice", x -> x.findLast(0, 6), 0);
        asks("bbbb", "findLast(0, 21), over another one", x -> x.findLast(0, 21), 1);
        asks("cbdaaddx", "findLast(0, 9999)", x -> x.findLast(0, 9999), 0);
        Edge.asks("findLast(0, 9999), at the end of 200", wordAtEnd(9999), x -> x.findLast(0, 9999), 193);
        Edge.asks("findLast(3, 0), at the end of 200", Edge::furnished, x -> x.findLast(3, 0), 199);
        Edge.asks("findLast(3, 27), of 60", Edge::furnished, x -> x.findLast(3, 27), 177);
        Sentences.of(35, "NONE without");
        asks("", "findLast(0, 0)", x -> x.findLast(0, 0), NONE);
        asks("b", "findLast(0, 6), longer than the tape", x -> x.findLast(0, 6), NONE);
        asks("cxb", "findLast(0, 6), cut off by both ends", x -> x.findLast(0, 6), NONE);
        asks("bcdaadd", "findLast(0, 9999), all but the first", x -> x.findLast(0, 9999), NONE);
        Edge.tapes(35, "findLast", (x, tape) -> x.findLast(tape, 0));
        Edge.words(35, "findLast", (x, word) -> x.findLast(0, word));
        Edge.argument("findLast, empty, of word", Edge::empty, 0, 9999, (x, word) -> x.findLast(0, word));
    }

    private static void findLastFrom() {
        Sentences.of(36, "Returns the last such PLACE that is from or less");
        int[] places = {NONE, 1, 1, 3, 3, 5, 5, 5, 5};
        for (int from = 0; from < places.length; from++) {
            int last = from;
            asks("xbcbcbc", "findLastFrom(0, 6, " + from + ")", x -> x.findLastFrom(0, 6, last), places[from]);
        }
        asks("bcx", "findLastFrom(0, 6, 0)", x -> x.findLastFrom(0, 6, 0), 0);
        asks("bbbb", "findLastFrom(0, 5, 1), over another one", x -> x.findLastFrom(0, 5, 1), 1);
        Sentences.of(36, "NONE without");
        asks("xbc", "findLastFrom(0, 6, 0), ahead of the first", x -> x.findLastFrom(0, 6, 0), NONE);
        asks("bc", "findLastFrom(0, 6, -1)", x -> x.findLastFrom(0, 6, -1), NONE);
        asks("b", "findLastFrom(0, 6, 0), longer than the tape", x -> x.findLastFrom(0, 6, 0), NONE);
        asks("", "findLastFrom(0, 0, 0)", x -> x.findLastFrom(0, 0, 0), NONE);
        Edge.tapes(36, "findLastFrom", (x, tape) -> x.findLastFrom(tape, 0, 0));
        Edge.words(36, "findLastFrom", (x, word) -> x.findLastFrom(0, word, 0));
        Edge.words(36, "findLastFrom the least", (x, word) -> x.findLastFrom(0, word, LEAST));
        Edge.words(36, "findLastFrom the greatest", (x, word) -> x.findLastFrom(0, word, GREATEST));
    }

    /** from is a number: none is wrong. */
    private static void findLastFromAnyNumber() {
        Sentences.of(36, "that is from or less");
        for (int from : new int[] {LEAST, LEAST + 1, -200, -2, -1}) {
            asks("bcxbc", "findLastFrom(0, 6, " + from + ")", x -> x.findLastFrom(0, 6, from), NONE);
            asks("", "findLastFrom(0, 0, " + from + ")", x -> x.findLastFrom(0, 0, from), NONE);
        }
        Edge.asks("findLastFrom(0, 9999, 192), at the end of 200", wordAtEnd(9999),
            x -> x.findLastFrom(0, 9999, 192), NONE);
        for (int from : new int[] {193, 194, 199, 200, 201, GREATEST - 1, GREATEST}) {
            Edge.asks("findLastFrom(0, 9999, " + from + "), at the end of 200", wordAtEnd(9999),
                x -> x.findLastFrom(0, 9999, from), 193);
            asks("bcxbc", "findLastFrom(0, 6, " + from + ")", x -> x.findLastFrom(0, 6, from), 3);
        }
    }

    /** Where tape 1 stands in tape 0: the first place and the last one. */
    private static void places(int promise, String row, String part, int first, int last) {
        Tapebuffer x = Check.with(row, part);
        if (promise == 37) {
            Edge.asks("findTape of \"" + part + "\" in \"" + row + "\"", x, y -> y.findTape(0, 1), first);
        } else {
            Edge.asks("findTapeLast of \"" + part + "\" in \"" + row + "\"", x, y -> y.findTapeLast(0, 1), last);
        }
    }

    private static void partsThatStand(int promise) {
        places(promise, "abab", "ab", 0, 2);
        places(promise, "xababx", "ab", 1, 3);
        places(promise, "aaaa", "aaa", 0, 1);
        places(promise, "aab", "ab", 1, 1);
        places(promise, "abc", "abc", 0, 0);
        places(promise, "\0\u00ff\0", "\0", 0, 2);
        places(promise, "\u007f\u0080\u00ff", "\u00ff", 2, 2);
    }

    private static void partsThatDoNotStand(int promise) {
        places(promise, "", "a", NONE, NONE);
        places(promise, "ab", "abc", NONE, NONE);
        places(promise, "xab", "abc", NONE, NONE);
        places(promise, "bcx", "abc", NONE, NONE);
        places(promise, "abab", "ba\0", NONE, NONE);
        places(promise, "\u007f", "\u00ff", NONE, NONE);
    }

    private static void findTape() {
        Sentences.of(37, "Returns the first PLACE from which on all of the other one stands there");
        partsThatStand(37);
        for (int tape = 0; tape < 4; tape++) {
            int same = tape;
            Edge.asks("findTape of itself", Edge::furnished, x -> x.findTape(same, same), 0);
        }
        Edge.asks("findTape of 200 in 200", Edge::full, x -> x.findTape(0, 3), 0);
        Edge.asks("findTape of 199 in 200", () -> Edge.furnished(199), x -> x.findTape(3, 0), 0);
        Sentences.of(37, "0 if that is empty");
        places(37, "", "", 0, 0);
        places(37, "abc", "", 0, 3);
        Edge.asks("findTape of none in 200", Edge::furnished, x -> x.findTape(3, 2), 0);
        Sentences.of(37, "NONE without");
        partsThatDoNotStand(37);
        Edge.asks("findTape of 200 in 199", () -> Edge.furnished(199), x -> x.findTape(0, 3), NONE);
        Edge.asks("findTape of 200 in none", Edge::furnished, x -> x.findTape(2, 3), NONE);
        Edge.otherTapes(37, "findTape", (x, tape) -> x.findTape(tape, 0));
        Edge.otherTapes(37, "findTape, other", (x, tape) -> x.findTape(0, tape));
    }

    private static void findTapeLast() {
        Sentences.of(38, "Returns the last such PLACE");
        partsThatStand(38);
        for (int tape : new int[] {0, 1, 3}) {
            Edge.asks("findTapeLast of itself", Edge::furnished, x -> x.findTapeLast(tape, tape), 0);
        }
        Edge.asks("findTapeLast of 200 in 200", Edge::full, x -> x.findTapeLast(0, 3), 0);
        Tapebuffer one = Edge.furnished();
        one.setLength(1, 0);
        one.addWord(1, 0);
        Edge.asks("findTapeLast of one in 200", one, x -> x.findTapeLast(3, 1), 199);
        Sentences.of(38, "the length if the other one is empty");
        places(38, "", "", 0, 0);
        places(38, "a", "", 0, 1);
        places(38, "abc", "", 0, 3);
        Edge.asks("findTapeLast of none in 200", Edge::furnished, x -> x.findTapeLast(3, 2), 200);
        Edge.asks("findTapeLast of none in none", Edge::furnished, x -> x.findTapeLast(2, 2), 0);
        Sentences.of(38, "NONE without");
        partsThatDoNotStand(38);
        Edge.asks("findTapeLast of 200 in 199", () -> Edge.furnished(199), x -> x.findTapeLast(0, 3), NONE);
        Edge.asks("findTapeLast of 200 in none", Edge::furnished, x -> x.findTapeLast(2, 3), NONE);
        Edge.otherTapes(38, "findTapeLast", (x, tape) -> x.findTapeLast(tape, 0));
        Edge.otherTapes(38, "findTapeLast, other", (x, tape) -> x.findTapeLast(0, tape));
    }

    private static void findSign() {
        Sentences.of(39, "Returns the first PLACE of that SIGN");
        for (int sign = 0; sign < 256; sign++) {
            int sought = sign;
            String one = String.valueOf((char) sign);
            String other = String.valueOf((char) (sign ^ 128));
            asks(one, "findSign of sign " + sign, x -> x.findSign(0, sought), 0);
            asks(other + one + one, "findSign of sign " + sign, x -> x.findSign(0, sought), 1);
        }
        Edge.asks("findSign at the end of 200", wordAtEnd(0), x -> x.findSign(0, 'a'), 199);
        Sentences.of(39, "NONE without");
        for (int sign = 0; sign < 256; sign++) {
            int sought = sign;
            String other = String.valueOf((char) (sign ^ 128));
            asks(other, "findSign of sign " + sign, x -> x.findSign(0, sought), NONE);
        }
        asks("", "findSign(0, 0)", x -> x.findSign(0, 0), NONE);
        Tapebuffer cut = Edge.full();
        cut.setLength(0, 2);
        Edge.asks("findSign of what was cut off", cut, x -> x.findSign(0, 'd'), NONE);
        Edge.tapes(39, "findSign", (x, tape) -> x.findSign(tape, 0));
        Edge.signs(39, "sign is not 0 to 255", "findSign", (x, sign) -> x.findSign(0, sign));
        Edge.argument("findSign, empty, of sign", Edge::empty, 0, 255, (x, sign) -> x.findSign(0, sign));
    }

    private static void has() {
        Sentences.of(40, "Returns whether the WORD stands somewhere in it");
        asks("a", "has(0, 0)", x -> x.has(0, 0), true);
        asks("bcx", "has(0, 6), at the start", x -> x.has(0, 6), true);
        asks("xbcx", "has(0, 6), between", x -> x.has(0, 6), true);
        asks("xbc", "has(0, 6), at the end", x -> x.has(0, 6), true);
        asks("", "has(0, 0)", x -> x.has(0, 0), false);
        asks("b", "has(0, 6), longer than the tape", x -> x.has(0, 6), false);
        asks("cb", "has(0, 6), turned", x -> x.has(0, 6), false);
        asks("bxc", "has(0, 6), a sign between", x -> x.has(0, 6), false);
        Edge.asks("has(0, 9999), at the end of 200", wordAtEnd(9999), x -> x.has(0, 9999), true);
        Tapebuffer cut = wordAtEnd(9999);
        cut.setLength(0, 199);
        Edge.asks("has(0, 9999), its last sign cut off", cut, x -> x.has(0, 9999), false);
        Edge.tapes(40, "has", (x, tape) -> x.has(tape, 0));
        Edge.words(40, "has", (x, word) -> x.has(0, word));
        Edge.argument("has, empty, of word", Edge::empty, 0, 9999, (x, word) -> x.has(0, word));
    }
}

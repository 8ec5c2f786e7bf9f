import java.math.BigInteger;
import java.util.function.Function;

/** Promises 1 to 10, sentence by sentence: the boundary cases of what is put behind a tape. */
public final class BehindEdgesTest {
    private static final int GREATEST = Edge.GREATEST;
    private static final int LEAST = Edge.LEAST;

    public static void main(String[] args) {
        newObject();
        addWord();
        addNumber();
        addLong();
        addLongOf64Digits();
        addSign();
        addTruth();
        addRow();
        addTape();
        addTapeRefused();
        addOften();
        addOftenRefused();
        addThree();
        addThreeRefused();
        Sentences.allNamed(1, 10);
        Check.end();
    }

    /** Behind an empty tape, and behind the signs of a furnished one. */
    private static void puts(String call, Function<Tapebuffer, Object> act, String coming) {
        Edge.act(call + ", empty", Edge::empty, act, coming.length(), coming);
        Edge.act(call, Edge::furnished, act, Edge.FIRST.length() + coming.length(), Edge.FIRST + coming);
    }

    /** How long it is then: from one sign on, and up to 200. */
    private static void tellsLength(int promise, String call, int coming, Function<Tapebuffer, Object> act) {
        Sentences.of(promise, "Returns how long it is then");
        Edge.act(call + ", of one", () -> Edge.furnished(1), act, 1 + coming, "b" + textOf(act));
        String most = Edge.FULL.substring(0, 200 - coming);
        Edge.act(call + ", to 200", () -> Edge.furnished(200 - coming), act, 200, most + textOf(act));
    }

    private static String textOf(Function<Tapebuffer, Object> act) {
        Tapebuffer x = new Tapebuffer();
        act.apply(x);
        return x.text(0);
    }

    private static void newObject() {
        Sentences.of(1, "Creates four empty tapes");
        for (int tape = 0; tape < 4; tape++) {
            Tapebuffer x = new Tapebuffer();
            Check.due("length(" + tape + ")", x.length(tape), 0);
            Check.due("text(" + tape + ")", x.text(tape), "");
        }
        Check.due("house(0)", new Tapebuffer().house(0), 0);
        Check.due("house(1)", new Tapebuffer().house(1), 4);
        Check.index(new Tapebuffer(), "length(4)", () -> new Tapebuffer().length(4));
        Check.index(new Tapebuffer(), "length(-1)", () -> new Tapebuffer().length(-1));
    }

    private static void addWord() {
        Sentences.of(2, "Puts a WORD behind a TAPE");
        puts("addWord(0, 0)", x -> x.addWord(0, 0), "a");
        puts("addWord(0, 9999)", x -> x.addWord(0, 9999), "cbdaadd");
        tellsLength(2, "addWord(0, 9999)", 7, x -> x.addWord(0, 9999));
        Sentences.of(2, "REFUSED");
        Edge.limit("addWord(0, 0)", 1, x -> x.addWord(0, 0));
        Edge.limit("addWord(0, 3)", 1, x -> x.addWord(0, 3));
        Edge.limit("addWord(0, 4)", 2, x -> x.addWord(0, 4));
        Edge.limit("addWord(0, 9999)", 7, x -> x.addWord(0, 9999));
        Edge.tapes(2, "addWord", (x, tape) -> x.addWord(tape, 0));
        Edge.words(2, "addWord", (x, word) -> x.addWord(0, word));
    }

    private static void addNumber() {
        Sentences.of(3, "Puts a number behind a TAPE");
        for (int number : new int[] {0, 9, 10, -1, -9, -10, 99, 100, GREATEST, GREATEST - 1, LEAST, LEAST + 1}) {
            puts("addNumber(0, " + number + ")", x -> x.addNumber(0, number), Integer.toString(number));
        }
        tellsLength(3, "addNumber(0, least)", 11, x -> x.addNumber(0, LEAST));
        Sentences.of(3, "REFUSED");
        Edge.limit("addNumber(0, 0)", 1, x -> x.addNumber(0, 0));
        Edge.limit("addNumber(0, -1)", 2, x -> x.addNumber(0, -1));
        Edge.limit("addNumber(0, greatest)", 10, x -> x.addNumber(0, GREATEST));
        Edge.limit("addNumber(0, least)", 11, x -> x.addNumber(0, LEAST));
        Edge.tapes(3, "addNumber", (x, tape) -> x.addNumber(tape, LEAST));
    }

    private static void addLong() {
        Sentences.of(4, "Puts a * 4294967296 + b behind a TAPE");
        puts("addLong(0, 0, 0)", x -> x.addLong(0, 0, 0), "0");
        puts("addLong(0, 0, -1)", x -> x.addLong(0, 0, -1), "-1");
        puts("addLong(0, 1, 0)", x -> x.addLong(0, 1, 0), "4294967296");
        puts("addLong(0, 0, greatest)", x -> x.addLong(0, 0, GREATEST), "2147483647");
        puts("addLong(0, 0, least)", x -> x.addLong(0, 0, LEAST), "-2147483648");
        puts("addLong(0, greatest, greatest)", x -> x.addLong(0, GREATEST, GREATEST), "9223372034707292159");
        puts("addLong(0, greatest, least)", x -> x.addLong(0, GREATEST, LEAST), "9223372030412324864");
        puts("addLong(0, least, 0)", x -> x.addLong(0, LEAST, 0), "-9223372036854775808");
        puts("addLong(0, least, greatest)", x -> x.addLong(0, LEAST, GREATEST), "-9223372034707292161");
        tellsLength(4, "addLong(0, least, 0)", 20, x -> x.addLong(0, LEAST, 0));
        Sentences.of(4, "REFUSED");
        Edge.limit("addLong(0, 0, 0)", 1, x -> x.addLong(0, 0, 0));
        Edge.limit("addLong(0, greatest, greatest)", 19, x -> x.addLong(0, GREATEST, GREATEST));
        Edge.limit("addLong(0, least, 0)", 20, x -> x.addLong(0, LEAST, 0));
        Edge.tapes(4, "addLong", (x, tape) -> x.addLong(tape, LEAST, LEAST));
    }

    /** Each limit of a with each limit of b: what goes beyond 64 binary digits wraps around. */
    private static void addLongOf64Digits() {
        Sentences.of(4, "as a number of 64 binary digits");
        puts("addLong(0, least, -1)", x -> x.addLong(0, LEAST, -1), "9223372036854775807");
        puts("addLong(0, least, least)", x -> x.addLong(0, LEAST, LEAST), "9223372034707292160");
        int[] limits = {LEAST, LEAST + 1, -65536, -10, -1, 0, 1, 9, 65535, GREATEST - 1, GREATEST};
        for (int a : limits) {
            for (int b : limits) {
                Tapebuffer x = new Tapebuffer();
                x.addLong(0, a, b);
                long sum = BigInteger.valueOf(a).shiftLeft(32).add(BigInteger.valueOf(b)).longValue();
                Check.due("addLong(0, " + a + ", " + b + "), then text(0)", x.text(0), Long.toString(sum));
            }
        }
    }

    private static void addSign() {
        Sentences.of(5, "Puts a SIGN behind a TAPE");
        for (int sign = 0; sign < 256; sign++) {
            int coming = sign;
            puts("addSign(0, " + sign + ")", x -> x.addSign(0, coming), String.valueOf((char) sign));
        }
        tellsLength(5, "addSign(0, 255)", 1, x -> x.addSign(0, 255));
        Sentences.of(5, "REFUSED");
        Edge.limit("addSign(0, 0)", 1, x -> x.addSign(0, 0));
        Edge.limit("addSign(0, 255)", 1, x -> x.addSign(0, 255));
        Edge.tapes(5, "addSign", (x, tape) -> x.addSign(tape, 0));
        Edge.signs(5, "sign is not 0 to 255", "addSign", (x, sign) -> x.addSign(0, sign));
    }

    private static void addTruth() {
        Sentences.of(6, "Puts a truth behind a TAPE");
        puts("addTruth(0, true)", x -> x.addTruth(0, true), "true");
        puts("addTruth(0, false)", x -> x.addTruth(0, false), "false");
        tellsLength(6, "addTruth(0, true)", 4, x -> x.addTruth(0, true));
        tellsLength(6, "addTruth(0, false)", 5, x -> x.addTruth(0, false));
        Sentences.of(6, "REFUSED");
        Edge.limit("addTruth(0, true)", 4, x -> x.addTruth(0, true));
        Edge.limit("addTruth(0, false)", 5, x -> x.addTruth(0, false));
        Edge.tapes(6, "addTruth", (x, tape) -> x.addTruth(tape, false));
    }

    private static void addRow() {
        Sentences.of(7, "Puts a row of three SIGNS behind a TAPE");
        puts("addRow(0, 0, 127, 255)", x -> x.addRow(0, 0, 127, 255), "\0\u007f\u00ff");
        puts("addRow(0, 255, 0, 128)", x -> x.addRow(0, 255, 0, 128), "\u00ff\0\u0080");
        tellsLength(7, "addRow(0, 1, 2, 3)", 3, x -> x.addRow(0, 1, 2, 3));
        Sentences.of(7, "REFUSED");
        Edge.limit("addRow(0, 1, 2, 3)", 3, x -> x.addRow(0, 1, 2, 3));
        Edge.refused("addRow(0, 1, 2, 3) to 202", Edge.furnished(199), x -> x.addRow(0, 1, 2, 3));
        Edge.tapes(7, "addRow", (x, tape) -> x.addRow(tape, 0, 0, 0));
        Edge.signs(7, "one is not 0 to 255", "addRow, the first", (x, sign) -> x.addRow(0, sign, 0, 255));
        Edge.signs(7, "one is not 0 to 255", "addRow, the second", (x, sign) -> x.addRow(0, 0, sign, 255));
        Edge.signs(7, "one is not 0 to 255", "addRow, the third", (x, sign) -> x.addRow(0, 0, 255, sign));
    }

    private static void addTape() {
        Sentences.of(8, "Puts all of a TAPE behind another one");
        Edge.act("addTape(0, 1)", Edge::furnished, x -> x.addTape(0, 1), 10, Edge.FIRST + Edge.SECOND);
        Edge.act("addTape(0, 2), an empty one", Edge::furnished, x -> x.addTape(0, 2), 7, Edge.FIRST);
        Edge.act("addTape(0, 3), all of 200", () -> Edge.furnished(0), x -> x.addTape(0, 3), 200, Edge.FULL);
        Edge.act("addTape(0, 1), empty both", Edge::empty, x -> x.addTape(0, 1), 0, "");
        Sentences.of(8, "or behind itself");
        Edge.act("addTape(0, 0)", Edge::furnished, x -> x.addTape(0, 0), 14, Edge.FIRST + Edge.FIRST);
        Edge.act("addTape(0, 0), empty", Edge::empty, x -> x.addTape(0, 0), 0, "");
        Edge.act("addTape(0, 0), of one", () -> Edge.furnished(1), x -> x.addTape(0, 0), 2, "bb");
        String half = Edge.FULL.substring(0, 100);
        Edge.act("addTape(0, 0), to 200", () -> Edge.furnished(100), x -> x.addTape(0, 0), 200, half + half);
        Sentences.of(8, "Returns how long it is then");
        Edge.act("addTape(0, 1), to 200", () -> Edge.furnished(197), x -> x.addTape(0, 1), 200,
            Edge.FULL.substring(0, 197) + Edge.SECOND);
        Edge.act("addTape(0, 2), of none, full", () -> Edge.furnished(200), x -> x.addTape(0, 2), 200, Edge.FULL);
    }

    private static void addTapeRefused() {
        Sentences.of(8, "REFUSED");
        Edge.limit("addTape(0, 1)", 3, x -> x.addTape(0, 1));
        Edge.refused("addTape(0, 3), 1 and 200", Edge.furnished(1), x -> x.addTape(0, 3));
        Edge.refused("addTape(0, 3), 200 and 200", Edge.furnished(200), x -> x.addTape(0, 3));
        Edge.refused("addTape(0, 0), 101 and 101", Edge.furnished(101), x -> x.addTape(0, 0));
        Edge.refused("addTape(0, 0), 200 and 200", Edge.furnished(200), x -> x.addTape(0, 0));
        Edge.otherTapes(8, "addTape", (x, tape) -> x.addTape(tape, 2));
        Edge.otherTapes(8, "addTape, other", (x, tape) -> x.addTape(0, tape));
    }

    private static void addOften() {
        Sentences.of(9, "Puts a WORD so many times behind a TAPE");
        puts("addOften(0, 27, 0)", x -> x.addOften(0, 27, 0), "");
        puts("addOften(0, 27, 1)", x -> x.addOften(0, 27, 1), "bcd");
        puts("addOften(0, 27, 2)", x -> x.addOften(0, 27, 2), "bcdbcd");
        puts("addOften(0, 0, 20)", x -> x.addOften(0, 0, 20), "a".repeat(20));
        puts("addOften(0, 9999, 20)", x -> x.addOften(0, 9999, 20), "cbdaadd".repeat(20));
        tellsLength(9, "addOften(0, 9999, 20)", 140, x -> x.addOften(0, 9999, 20));
        tellsLength(9, "addOften(0, 9999, 0)", 0, x -> x.addOften(0, 9999, 0));
    }

    private static void addOftenRefused() {
        Sentences.of(9, "REFUSED");
        Edge.limit("addOften(0, 0, 1)", 1, x -> x.addOften(0, 0, 1));
        Edge.limit("addOften(0, 6, 20)", 40, x -> x.addOften(0, 6, 20));
        Edge.limit("addOften(0, 9999, 20)", 140, x -> x.addOften(0, 9999, 20));
        Edge.refused("addOften(0, 6, 20) to 202", Edge.furnished(162), x -> x.addOften(0, 6, 20));
        Edge.tapes(9, "addOften", (x, tape) -> x.addOften(tape, 9999, 20));
        Edge.tapes(9, "addOften of none", (x, tape) -> x.addOften(tape, 9999, 0));
        Edge.words(9, "addOften", (x, word) -> x.addOften(0, word, 20));
        Edge.words(9, "addOften of none", (x, word) -> x.addOften(0, word, 0));
        Sentences.of(9, "often not 0 to 20");
        Edge.argument("addOften so many times:", 0, 20, (x, often) -> x.addOften(0, 0, often));
        Edge.argument("addOften of the longest so many times:", 0, 20, (x, often) -> x.addOften(0, 9999, often));
    }

    private static void addThree() {
        Sentences.of(10, "Puts a WORD, a SIGN and a number behind a TAPE, one behind the other");
        puts("addThree(0, 0, 0, 0)", x -> x.addThree(0, 0, 0, 0), "a\0" + "0");
        puts("addThree(0, 9999, 255, least)", x -> x.addThree(0, 9999, 255, LEAST), "cbdaadd\u00ff-2147483648");
        puts("addThree(0, 4, 128, greatest)", x -> x.addThree(0, 4, 128, GREATEST), "ba\u00802147483647");
        puts("addThree(0, 27, 45, -1)", x -> x.addThree(0, 27, 45, -1), "bcd--1");
        tellsLength(10, "addThree(0, 9999, 255, least)", 19, x -> x.addThree(0, 9999, 255, LEAST));
    }

    private static void addThreeRefused() {
        Sentences.of(10, "REFUSED");
        Edge.limit("addThree(0, 0, 0, 0)", 3, x -> x.addThree(0, 0, 0, 0));
        Edge.limit("addThree(0, 9999, 255, least)", 19, x -> x.addThree(0, 9999, 255, LEAST));
        Edge.refused("addThree, the word alone would fit", Edge.furnished(193), x -> x.addThree(0, 9999, 1, 1));
        Edge.refused("addThree, all but the number would fit", Edge.furnished(192), x -> x.addThree(0, 9999, 1, 1));
        Edge.tapes(10, "addThree", (x, tape) -> x.addThree(tape, 0, 0, LEAST));
        Edge.words(10, "addThree", (x, word) -> x.addThree(0, word, 0, LEAST));
        Edge.signs(10, "sign not 0 to 255", "addThree", (x, sign) -> x.addThree(0, 0, sign, GREATEST));
    }
}

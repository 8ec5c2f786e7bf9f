import java.util.LinkedHashMap;
import java.util.Map;
import java.util.function.Function;

/** The description, sentence by sentence; its section "2. Numbers that are read" is in NumberEdgesTest. */
public final class DescriptionEdgesTest {
    private static final int DESCRIPTION = Sentences.DESCRIPTION;
    private static final int GREATEST = Edge.GREATEST;
    private static final int LEAST = Edge.LEAST;

    /** A call of some method, told by what it is given. */
    private interface Call extends Function<Tapebuffer, Object> {
    }

    public static void main(String[] args) {
        wholeNumbers();
        sumsOf64Digits();
        none();
        refused();
        neverRefused();
        exceptionsGoAhead();
        exceptionsChangeNothing();
        firstNamedException();
        tapes();
        signs();
        atMost200();
        lengthAheadOfTheAct();
        words();
        numbersAndTruths();
        turned();
        less();
        pictures();
        watches();
        face();
        Sentences.allNamed(DESCRIPTION, DESCRIPTION);
        Check.end();
    }

    private static void wholeNumbers() {
        Sentences.of(DESCRIPTION, "Whole numbers (as told, of 32 binary digits");
        Edge.act("addNumber of the least", Edge::empty, x -> x.addNumber(0, LEAST), 11, "-2147483648");
        Edge.act("addNumber of the greatest", Edge::empty, x -> x.addNumber(0, GREATEST), 10, "2147483647");
        Edge.act("putNumber of the least", Edge::empty, x -> x.putNumber(0, 0, LEAST), 11, "-2147483648");
        Edge.act("putNumber of the greatest", Edge::empty, x -> x.putNumber(0, 0, GREATEST), 10, "2147483647");
        Edge.act("addThree of the least", Edge::empty, x -> x.addThree(0, 0, 45, LEAST), 13, "a--2147483648");
        Edge.act("addThree of the greatest", Edge::empty, x -> x.addThree(0, 0, 45, GREATEST), 12, "a-2147483647");
        Edge.act("takeOut to the greatest", Edge::full, x -> x.takeOut(0, 1, GREATEST), 1, "b");
        Edge.asks("findFrom the least", Edge::full, x -> x.findFrom(0, 27, LEAST), 0);
        Edge.asks("findLastFrom the greatest", Edge::full, x -> x.findLastFrom(0, 27, GREATEST), 177);
    }

    private static void sumsOf64Digits() {
        Sentences.of(DESCRIPTION, "sums in a TEXT that is told to be of 64");
        Edge.act("addLong, the greatest of 64", Edge::empty, x -> x.addLong(0, LEAST, -1), 19, "9223372036854775807");
        Edge.act("addLong, the least of 64", Edge::empty, x -> x.addLong(0, LEAST, 0), 20, "-9223372036854775808");
        Edge.act("addLong, the first beyond 32", Edge::empty, x -> x.addLong(0, 1, LEAST), 10, "2147483648");
        Edge.act("addLong, the first below 32", Edge::empty, x -> x.addLong(0, -1, GREATEST), 11, "-2147483649");
    }

    private static void none() {
        Sentences.of(DESCRIPTION, "NONE is -1");
        Edge.act("turn", Edge::empty, x -> x.turn(0), -1, "");
        Edge.asks("find", Edge::empty, x -> x.find(0, 0), -1);
        Edge.asks("findFrom", Edge::empty, x -> x.findFrom(0, 0, 0), -1);
        Edge.asks("findLast", Edge::empty, x -> x.findLast(0, 0), -1);
        Edge.asks("findLastFrom", Edge::empty, x -> x.findLastFrom(0, 0, 0), -1);
        Edge.asks("findTape", Edge::furnished, x -> x.findTape(0, 1), -1);
        Edge.asks("findTapeLast", Edge::furnished, x -> x.findTapeLast(0, 1), -1);
        Edge.asks("findSign", Edge::empty, x -> x.findSign(0, 0), -1);
        Edge.asks("watched(2)", Edge::empty, x -> x.watched(2), -1);
        Edge.asks("watched(3)", Edge::empty, x -> x.watched(3), -1);
    }

    /** Every method that names REFUSED, told to put something on that full tape. */
    private static Map<String, Call> refusedCalls(int tape) {
        Map<String, Call> calls = new LinkedHashMap<>();
        calls.put("addWord", x -> x.addWord(tape, 0));
        calls.put("addNumber", x -> x.addNumber(tape, 0));
        calls.put("addLong", x -> x.addLong(tape, 0, 0));
        calls.put("addSign", x -> x.addSign(tape, 0));
        calls.put("addTruth", x -> x.addTruth(tape, true));
        calls.put("addRow", x -> x.addRow(tape, 0, 0, 0));
        calls.put("addTape", x -> x.addTape(tape, tape));
        calls.put("addOften", x -> x.addOften(tape, 0, 1));
        calls.put("addThree", x -> x.addThree(tape, 0, 0, 0));
        calls.put("putWord", x -> x.putWord(tape, 200, 0));
        calls.put("putNumber", x -> x.putNumber(tape, 0, 0));
        calls.put("putSign", x -> x.putSign(tape, 100, 0));
        calls.put("putTape", x -> x.putTape(tape, 0, tape));
        calls.put("exchange", x -> x.exchange(tape, 0, 1, 4));
        calls.put("exchangeTape", x -> x.exchangeTape(tape, 0, 199, tape));
        return calls;
    }

    private static void refused() {
        Sentences.of(DESCRIPTION, "REFUSED is -9, where a method names it: nothing changes then, and it is counted");
        for (int tape = 0; tape < 4; tape++) {
            int full = tape;
            refusedCalls(tape).forEach((name, call) -> {
                Edge.refused(name + " on tape " + full, Edge.full(), call);
                Check.due(name + " on tape " + full, call.apply(Edge.full()), -9);
            });
        }
    }

    /** A method that does not name REFUSED neither tells nor counts it, on full tapes too. */
    private static void neverRefused() {
        Sentences.of(DESCRIPTION, "where a method names it");
        Map<String, Call> calls = new LinkedHashMap<>();
        calls.put("takeOut", x -> x.takeOut(0, 0, 0));
        calls.put("takeSign", x -> x.takeSign(0, 0));
        calls.put("setSign", x -> x.setSign(0, 0, 0));
        calls.put("setLength", x -> x.setLength(0, 200));
        calls.put("turn", x -> x.turn(0));
        calls.put("copy", x -> x.copy(0, 3));
        calls.put("trim", x -> x.trim(0));
        calls.put("picture", x -> x.picture(0));
        calls.put("watch", x -> x.watch(0));
        calls.put("back", x -> x.back(0));
        calls.put("knock", x -> x.knock());
        calls.put("number", x -> x.number(0, 0, 200, 10));
        calls.put("word", x -> x.word(9999));
        calls.put("find", x -> x.find(0, 9999));
        calls.put("isSound", x -> x.isSound());
        calls.put("digest", x -> x.digest());
        calls.forEach((name, call) -> {
            Tapebuffer x = Edge.full();
            Check.due(name + ", full, tells REFUSED", call.apply(x).equals(Check.REFUSED), false);
            Check.due(name + ", full, then house(2)", x.house(2), 1);
        });
    }

    private static void exceptionsGoAhead() {
        Sentences.of(DESCRIPTION, "(exceptions go ahead of it)");
        for (int tape : new int[] {-1, 4, LEAST, GREATEST}) {
            refusedCalls(tape).forEach((name, call) -> {
                Tapebuffer x = Edge.full();
                Check.index(x, name + " on tape " + tape + ", full", () -> call.apply(x));
            });
        }
        wrongCalls().forEach((name, call) -> {
            Tapebuffer x = Edge.full();
            Check.argument(x, name + ", full", () -> call.apply(x));
        });
        placesBeyond(200).forEach((name, call) -> {
            Tapebuffer x = Edge.full();
            Check.index(x, name + ", full", () -> call.apply(x));
        });
    }

    /** A wrong argument for each IllegalArgumentException, on tapes that have a place 1. */
    private static Map<String, Call> wrongCalls() {
        Map<String, Call> calls = new LinkedHashMap<>();
        calls.put("addWord of word 10000", x -> x.addWord(0, 10000));
        calls.put("addSign of sign 256", x -> x.addSign(0, 256));
        calls.put("addRow of sign 256, the first", x -> x.addRow(0, 256, 0, 0));
        calls.put("addRow of sign 256, the second", x -> x.addRow(0, 0, 256, 0));
        calls.put("addRow of sign 256, the third", x -> x.addRow(0, 0, 0, 256));
        calls.put("addOften of word 10000", x -> x.addOften(0, 10000, 1));
        calls.put("addOften 21 times", x -> x.addOften(0, 0, 21));
        calls.put("addThree of word 10000", x -> x.addThree(0, 10000, 0, 0));
        calls.put("addThree of sign 256", x -> x.addThree(0, 0, 256, 0));
        calls.put("putWord of word 10000", x -> x.putWord(0, 1, 10000));
        calls.put("putSign of sign 256", x -> x.putSign(0, 1, 256));
        calls.put("takeOut to less than from", x -> x.takeOut(0, 1, 0));
        calls.put("exchange to less than from", x -> x.exchange(0, 1, 0, 9999));
        calls.put("exchange of word 10000", x -> x.exchange(0, 1, 1, 10000));
        calls.put("exchangeTape to less than from", x -> x.exchangeTape(0, 1, 0, 3));
        calls.put("setSign of sign 256", x -> x.setSign(0, 1, 256));
        calls.put("setLength to 201", x -> x.setLength(0, 201));
        calls.put("part to less than from", x -> x.part(0, 1, 0));
        calls.put("find of word 10000", x -> x.find(0, 10000));
        calls.put("findFrom of word 10000", x -> x.findFrom(0, 10000, 0));
        calls.put("findLast of word 10000", x -> x.findLast(0, 10000));
        calls.put("findLastFrom of word 10000", x -> x.findLastFrom(0, 10000, 0));
        calls.put("findSign of sign 256", x -> x.findSign(0, 256));
        calls.put("has of word 10000", x -> x.has(0, 10000));
        calls.put("number to less than from", x -> x.number(0, 1, 0, 10));
        calls.put("number by 37", x -> x.number(0, 0, 1, 37));
        calls.put("watched(4)", x -> x.watched(4));
        calls.put("word(10000)", x -> x.word(10000));
        calls.put("house(5)", x -> x.house(5));
        return calls;
    }

    /** The first number beyond what tape 0 takes as a place or an end. */
    private static Map<String, Call> placesBeyond(int length) {
        int beyond = length + 1;
        Map<String, Call> calls = new LinkedHashMap<>();
        calls.put("putWord behind the end", x -> x.putWord(0, beyond, 0));
        calls.put("putNumber behind the end", x -> x.putNumber(0, beyond, 0));
        calls.put("putSign behind the end", x -> x.putSign(0, beyond, 0));
        calls.put("putTape behind the end", x -> x.putTape(0, beyond, 0));
        calls.put("takeOut from behind the end", x -> x.takeOut(0, beyond, beyond));
        calls.put("takeSign at the end", x -> x.takeSign(0, length));
        calls.put("exchange from behind the end", x -> x.exchange(0, beyond, beyond, 0));
        calls.put("exchangeTape from behind the end", x -> x.exchangeTape(0, beyond, beyond, 0));
        calls.put("setSign at the end", x -> x.setSign(0, length, 0));
        calls.put("sign at the end", x -> x.sign(0, length));
        calls.put("part from behind the end", x -> x.part(0, beyond, beyond));
        calls.put("part to behind the end", x -> x.part(0, length, beyond));
        calls.put("rest from behind the end", x -> x.rest(0, beyond));
        calls.put("number from behind the end", x -> x.number(0, beyond, beyond, 10));
        calls.put("number to behind the end", x -> x.number(0, length, beyond, 10));
        return calls;
    }

    private static void exceptionsChangeNothing() {
        Sentences.of(DESCRIPTION, "A method that throws an exception changes nothing");
        Map<String, Call> placesBeyond = placesBeyond(Edge.FIRST.length());
        wrongCalls().forEach((name, call) -> {
            Tapebuffer x = Edge.furnished();
            Check.argument(x, name, () -> call.apply(x));
        });
        placesBeyond.forEach((name, call) -> {
            Tapebuffer x = Edge.furnished();
            Check.index(x, name, () -> call.apply(x));
        });
        Tapebuffer all = Edge.furnished();
        wrongCalls().values().forEach(call -> thrown(all, call));
        placesBeyond.values().forEach(call -> thrown(all, call));
        Check.due("all that is held, after all of them", Check.all(all), Check.all(Edge.furnished()));
        Check.due("digest(), after all of them", all.digest(), Edge.furnished().digest());
    }

    private static void thrown(Tapebuffer x, Call call) {
        try {
            Check.due("a wrong call", call.apply(x), "an exception");
        } catch (IllegalArgumentException | IndexOutOfBoundsException due) {
            return;
        }
    }

    private static void firstNamedException() {
        Sentences.of(DESCRIPTION, "If several exceptions apply, the one that is named first is thrown");
        Map<String, Call> calls = new LinkedHashMap<>();
        calls.put("addWord", x -> x.addWord(4, 10000));
        calls.put("addSign", x -> x.addSign(-1, 256));
        calls.put("addRow", x -> x.addRow(4, 256, 256, 256));
        calls.put("addOften", x -> x.addOften(-1, 10000, 21));
        calls.put("addThree", x -> x.addThree(4, 10000, 256, 0));
        calls.put("putWord of no tape", x -> x.putWord(4, 0, 10000));
        calls.put("putWord at no place", x -> x.putWord(0, -1, 10000));
        calls.put("putSign of no tape", x -> x.putSign(4, 0, 256));
        calls.put("putSign at no place", x -> x.putSign(0, 201, 256));
        calls.put("takeOut of no tape", x -> x.takeOut(4, 1, 0));
        calls.put("takeOut from no place", x -> x.takeOut(0, 201, 200));
        calls.put("exchange of no tape", x -> x.exchange(-1, 1, 0, 10000));
        calls.put("exchange from no place", x -> x.exchange(0, 201, 0, 10000));
        calls.put("exchangeTape of no tape", x -> x.exchangeTape(4, 1, 0, 0));
        calls.put("exchangeTape for no tape", x -> x.exchangeTape(0, 1, 0, 4));
        calls.put("exchangeTape from no place", x -> x.exchangeTape(0, 201, 200, 1));
        calls.put("setSign of no tape", x -> x.setSign(4, 0, 256));
        calls.put("setSign at no place", x -> x.setSign(0, 200, 256));
        calls.put("setLength", x -> x.setLength(4, 201));
        calls.put("part of no tape", x -> x.part(4, 1, 0));
        calls.put("part from no place", x -> x.part(0, 201, 200));
        calls.put("part to no place", x -> x.part(0, 1, -1));
        calls.put("find", x -> x.find(4, 10000));
        calls.put("findFrom", x -> x.findFrom(-1, -1, 0));
        calls.put("findLast", x -> x.findLast(4, 10000));
        calls.put("findLastFrom", x -> x.findLastFrom(-1, -1, 0));
        calls.put("findSign", x -> x.findSign(4, 256));
        calls.put("has", x -> x.has(-1, -1));
        calls.put("number of no tape", x -> x.number(4, 1, 0, 37));
        calls.put("number from no place", x -> x.number(0, 201, 200, 37));
        calls.put("number to no place", x -> x.number(0, 1, -1, 1));
        calls.forEach((name, call) -> {
            Tapebuffer furnished = Edge.furnished();
            Check.index(furnished, name, () -> call.apply(furnished));
            Tapebuffer full = Edge.full();
            Check.index(full, name + ", full", () -> call.apply(full));
        });
    }

    private static void tapes() {
        Sentences.of(DESCRIPTION, "TAPES 0 to 3, each a row of SIGNS");
        Tapebuffer x = Edge.empty();
        for (int tape = 0; tape < 4; tape++) {
            x.addOften(tape, tape, 3);
        }
        for (int tape = 0; tape < 4; tape++) {
            Check.due("text(" + tape + ")", x.text(tape), "abcd".substring(tape, tape + 1).repeat(3));
        }
        Check.index(x, "text(-1)", () -> x.text(-1));
        Check.index(x, "text(4)", () -> x.text(4));
        Sentences.of(DESCRIPTION, "empty at first, numbered from 0 on by PLACES");
        for (int tape = 0; tape < 4; tape++) {
            int empty = tape;
            Edge.asks("text(" + tape + "), at first", Tapebuffer::new, y -> y.text(empty), "");
            Tapebuffer first = new Tapebuffer();
            Check.index(first, "sign(" + tape + ", 0), at first", () -> first.sign(empty, 0));
            Edge.asks("sign(" + tape + ", 0), of a row", Edge::full, y -> y.sign(empty, 0), (int) 'b');
            Edge.asks("sign(" + tape + ", 199), of a row of 200", Edge::full, y -> y.sign(empty, 199), (int) 'a');
        }
    }

    private static void signs() {
        Sentences.of(DESCRIPTION, "(0 to 255; told in a text as the sign with that code)");
        for (int sign = 0; sign < 256; sign++) {
            Tapebuffer x = Edge.empty();
            x.addSign(3, sign);
            Check.due("length of the text of sign " + sign, x.text(3).length(), 1);
            Check.due("code of the text of sign " + sign, (int) x.text(3).charAt(0), sign);
            Check.due("code of the part of sign " + sign, (int) x.part(3, 0, 1).charAt(0), sign);
            Check.due("code of the rest of sign " + sign, (int) x.rest(3, 0).charAt(0), sign);
        }
        Edge.argument("addSign of", 0, 255, (x, sign) -> x.addSign(3, sign));
    }

    private static void atMost200() {
        Sentences.of(DESCRIPTION, "A TAPE has at most 200 SIGNS: an act that would make more is REFUSED, all of it");
        for (int tape = 0; tape < 4; tape++) {
            int filled = tape;
            Tapebuffer x = Edge.empty();
            for (int length = 1; length <= 200; length++) {
                Check.due("addSign on tape " + tape, x.addSign(tape, 255 - length), length);
            }
            Edge.refused("addSign on tape " + tape + ", the sign 201", x, y -> y.addSign(filled, 0));
        }
        Edge.asks("house(0), all tapes at once", Edge::full, x -> x.house(0), 800);
        for (int length = 181; length <= 200; length++) {
            Tapebuffer y = Edge.furnished(length);
            Check.refused(y, "addOften of 20 on " + length, () -> y.addOften(0, 0, 20));
            Check.due("addOften of 20 on " + length + ", then text(0)", y.text(0), Edge.FULL.substring(0, length));
        }
        Edge.limit("addOften of 20", 20, y -> y.addOften(0, 0, 20));
    }

    private static void lengthAheadOfTheAct() {
        Sentences.of(DESCRIPTION, "(Its length ahead of the act, and what comes, less what goes.)");
        Edge.act("200 and 7 less 7", Edge::full, x -> x.exchange(0, 0, 7, 9999), 200, "cbdaadd" + Edge.FULL.substring(7));
        Edge.refused("200 and 7 less 6", Edge.full(), x -> x.exchange(0, 0, 6, 9999));
        Edge.act("200 and 7 less 8", Edge::full, x -> x.exchange(0, 0, 8, 9999), 199, "cbdaadd" + Edge.FULL.substring(8));
        Edge.act("200 and 200 less 200", Edge::full, x -> x.exchangeTape(0, 0, 200, 3), 200, Edge.FULL);
        Edge.refused("200 and 200 less 199", Edge.full(), x -> x.exchangeTape(0, 0, 199, 3));
        Edge.refused("200 and 1 less none that is behind the end", Edge.full(), x -> x.exchange(0, 200, GREATEST, 0));
        Edge.act("200 and none", Edge::full, x -> x.addOften(0, 9999, 0), 200, Edge.FULL);
    }

    private static void wordIs(int number, String due) {
        Edge.asks("word(" + number + ")", Edge::furnished, x -> x.word(number), due);
        Edge.act("addWord(0, " + number + ")", Edge::empty, x -> x.addWord(0, number), due.length(), due);
        Edge.asks("find(0, " + number + ")", Check.with("." + due + "."), x -> x.find(0, number), 1);
    }

    private static void words() {
        Sentences.of(DESCRIPTION, "WORD of a number n (0 to 9999): n written by digits 0 to 3");
        wordIs(9999, "cbdaadd");
        Edge.argument("word", 0, 9999, (x, word) -> x.word(word));
        Sentences.of(DESCRIPTION, "the highest one first, that one not 0");
        wordIs(4, "ba");
        wordIs(5, "bb");
        wordIs(15, "dd");
        wordIs(16, "baa");
        wordIs(4095, "dddddd");
        wordIs(4096, "baaaaaa");
        Sentences.of(DESCRIPTION, "of 0 the digit 0");
        wordIs(0, "a");
        Sentences.of(DESCRIPTION, "each as a letter: \"a\" for 0, \"b\" 1, \"c\" 2, \"d\" 3");
        wordIs(1, "b");
        wordIs(2, "c");
        wordIs(3, "d");
        Sentences.of(DESCRIPTION, "(27 is 1 * 16 + 2 * 4 + 3: \"bcd\".)");
        wordIs(27, "bcd");
    }

    private static void numbersAndTruths() {
        Sentences.of(DESCRIPTION, "A number is put on a TAPE as its digits, with \"-\" ahead, if it is below 0");
        for (int number : new int[] {LEAST, LEAST + 1, -1000000000, -999999999, -100, -99, -10, -9, -1, 0, 1, 9, 10, 99, 100,
            999999999, 1000000000, GREATEST - 1, GREATEST}) {
            String due = Integer.toString(number);
            Edge.act("addNumber(0, " + number + ")", Edge::empty, x -> x.addNumber(0, number), due.length(), due);
            Edge.act("putNumber(0, 0, " + number + ")", Edge::empty, x -> x.putNumber(0, 0, number), due.length(), due);
        }
        Sentences.of(DESCRIPTION, "a truth as \"true\" or \"false\"");
        Edge.act("addTruth(0, true)", Edge::empty, x -> x.addTruth(0, true), 4, "true");
        Edge.act("addTruth(0, false)", Edge::empty, x -> x.addTruth(0, false), 5, "false");
    }

    private static void turned() {
        Sentences.of(DESCRIPTION, "TURNED: the last SIGN first, and so on");
        for (int length = 0; length <= 200; length++) {
            String row = Edge.FULL.substring(0, length);
            String due = new StringBuilder(row).reverse().toString();
            int then = length;
            int first = length == 0 ? -1 : due.charAt(0);
            Edge.act("turn of " + length, () -> Edge.furnished(then), x -> x.turn(0), first, due);
        }
    }

    private static void lessThan(String one, String other) {
        Tapebuffer x = Check.with(one, other);
        Edge.asks("compare(0, 1)", x, y -> y.compare(0, 1), -1);
        Edge.asks("compare(1, 0)", x, y -> y.compare(1, 0), 1);
    }

    private static void less() {
        Sentences.of(DESCRIPTION, "if at the first PLACE at which they differ its SIGN is less");
        lessThan("a", "b");
        lessThan("azz", "b");
        lessThan("abz", "aca");
        lessThan("\u007f", "\u0080");
        lessThan("\0\u00ff", "\u00ff");
        Sentences.of(DESCRIPTION, "or if there is no such PLACE, and it is shorter");
        lessThan("", "\0");
        lessThan("a", "a\0");
        lessThan(Edge.FULL.substring(0, 199), Edge.FULL);
    }

    private static void pictures() {
        Sentences.of(DESCRIPTION, "A PICTURE is the row that some TAPE was, at some time");
        Tapebuffer x = Edge.furnished();
        x.picture(0);
        x.setSign(0, 0, '!');
        x.setLength(0, 3);
        Edge.asks("seen(), of a row that is no more", x, y -> y.seen(), Edge.FIRST);
        Sentences.of(DESCRIPTION, "There are one PICTURE and one WATCH");
        x.picture(1);
        Edge.asks("seen(), of the later one", x, y -> y.seen(), Edge.SECOND);
        Sentences.of(DESCRIPTION, "at first the PICTURE is the empty row, the WATCH of the TAPE 0");
        Edge.asks("seen(), at first", Tapebuffer::new, y -> y.seen(), "");
        Edge.asks("watched(0), at first", Tapebuffer::new, y -> y.watched(0), 0);
        Edge.asks("seen(), before any picture", Check.with("abc"), y -> y.seen(), "");
        Edge.act("back(0), before any picture", () -> Check.with("abc"), y -> y.back(0), 0, "");
        Edge.asks("watched(1), before any watch", Check.with("abc", "x"), y -> y.watched(1), 3);
    }

    private static void watches() {
        Sentences.of(DESCRIPTION, "a WATCH is of a TAPE and tells it as it is at each time");
        Tapebuffer x = Edge.furnished();
        Edge.asks("watched(2)", x, y -> y.watched(2), (int) 'x');
        x.setSign(1, 0, '!');
        Edge.asks("watched(2), after another sign", x, y -> y.watched(2), (int) '!');
        x.addSign(1, '?');
        Edge.asks("watched(3), after one sign more", x, y -> y.watched(3), (int) '?');
        Edge.asks("watched(1), after one sign more", x, y -> y.watched(1), 4);
        x.setLength(1, 0);
        Edge.asks("watched(1), after all went", x, y -> y.watched(1), 0);
        Sentences.of(DESCRIPTION, "There are one PICTURE and one WATCH");
        x.watch(3);
        Edge.asks("watched(0), of the later one", x, y -> y.watched(0), 3);
        Edge.asks("watched(1), of the later one", x, y -> y.watched(1), 200);
    }

    /** FaceTest holds the signatures against the document one by one. */
    private static void face() {
        Sentences.of(DESCRIPTION,
            "The constructor and the methods follow, a promise each: the signature, then what it does");
        long methods = java.util.Arrays.stream(Tapebuffer.class.getMethods())
            .filter(method -> method.getDeclaringClass() == Tapebuffer.class).count();
        Check.due("public methods", methods, 52L);
        Check.due("public constructors", Tapebuffer.class.getConstructors().length, 1);
    }
}

/** Promises 33 to 40: the places of words, tapes and signs. */
public final class FindTest {
    private static final int NONE = Check.NONE;
    private static final int GREATEST = Integer.MAX_VALUE;
    private static final int LEAST = Integer.MIN_VALUE;

    public static void main(String[] args) {
        find();
        findFrom();
        findLast();
        findLastFrom();
        findTape();
        findTapeLast();
        findSign();
        has();
        Check.end();
    }

    private static void find() {
        Tapebuffer x = Check.with("xbcbcdbc", "bb", "");
        Check.due("find(0, 6)", x.find(0, 6), 1);
        Check.due("find(0, 27)", x.find(0, 27), 3);
        Check.due("find(0, 0)", x.find(0, 0), NONE);
        Check.due("find(0, 26), half of it at the end", x.find(0, 26), NONE);
        Check.due("find(1, 5), all of it", x.find(1, 5), 0);
        Check.due("find(1, 21), longer than it", x.find(1, 21), NONE);
        Check.due("find(2, 0), of an empty one", x.find(2, 0), NONE);
        Check.noSuchTape(x, "find", tape -> x.find(tape, 0));
        Check.noSuchWord(x, "find", word -> x.find(0, word));
        Check.index(x, "find(4, -1)", () -> x.find(4, -1));
        Tapebuffer full = Check.withLength(193);
        full.addWord(0, 9999);
        Check.due("find(0, 9999), at the end of 200", full.find(0, 9999), 193);
    }

    private static void findFrom() {
        Tapebuffer x = Check.with("bcxbcbc");
        Check.due("findFrom(0, 6, 0)", x.findFrom(0, 6, 0), 0);
        Check.due("findFrom(0, 6, 1)", x.findFrom(0, 6, 1), 3);
        Check.due("findFrom(0, 6, 3)", x.findFrom(0, 6, 3), 3);
        Check.due("findFrom(0, 6, 5)", x.findFrom(0, 6, 5), 5);
        Check.due("findFrom(0, 6, 6)", x.findFrom(0, 6, 6), NONE);
        Check.due("findFrom(0, 6, 7)", x.findFrom(0, 6, 7), NONE);
        Check.due("findFrom(0, 6, greatest)", x.findFrom(0, 6, GREATEST), NONE);
        Check.due("findFrom(0, 6, -1)", x.findFrom(0, 6, -1), 0);
        Check.due("findFrom(0, 6, least)", x.findFrom(0, 6, LEAST), 0);
        Check.due("findFrom(1, 6, 0), of an empty one", x.findFrom(1, 6, 0), NONE);
        Check.noSuchTape(x, "findFrom", tape -> x.findFrom(tape, 0, 0));
        Check.noSuchWord(x, "findFrom", word -> x.findFrom(0, word, 0));
        Check.index(x, "findFrom(4, -1, 0)", () -> x.findFrom(4, -1, 0));
    }

    private static void findLast() {
        Tapebuffer x = Check.with("bcxbcbcb", "bbb", "");
        Check.due("findLast(0, 6)", x.findLast(0, 6), 5);
        Check.due("findLast(0, 1)", x.findLast(0, 1), 7);
        Check.due("findLast(0, 0)", x.findLast(0, 0), NONE);
        Check.due("findLast(1, 5), over itself", x.findLast(1, 5), 1);
        Check.due("findLast(1, 21)", x.findLast(1, 21), 0);
        Check.due("findLast(1, 85), longer than it", x.findLast(1, 85), NONE);
        Check.due("findLast(2, 0), of an empty one", x.findLast(2, 0), NONE);
        Check.noSuchTape(x, "findLast", tape -> x.findLast(tape, 0));
        Check.noSuchWord(x, "findLast", word -> x.findLast(0, word));
        Check.index(x, "findLast(4, -1)", () -> x.findLast(4, -1));
        Tapebuffer full = Check.withLength(199);
        full.addWord(0, 0);
        Check.due("findLast(0, 0), at the end of 200", full.findLast(0, 0), 199);
    }

    private static void findLastFrom() {
        Tapebuffer x = Check.with("xbcbcbc");
        Check.due("findLastFrom(0, 6, 5)", x.findLastFrom(0, 6, 5), 5);
        Check.due("findLastFrom(0, 6, 4)", x.findLastFrom(0, 6, 4), 3);
        Check.due("findLastFrom(0, 6, 1)", x.findLastFrom(0, 6, 1), 1);
        Check.due("findLastFrom(0, 6, 0)", x.findLastFrom(0, 6, 0), NONE);
        Check.due("findLastFrom(0, 6, -1)", x.findLastFrom(0, 6, -1), NONE);
        Check.due("findLastFrom(0, 6, least)", x.findLastFrom(0, 6, LEAST), NONE);
        Check.due("findLastFrom(0, 6, 6)", x.findLastFrom(0, 6, 6), 5);
        Check.due("findLastFrom(0, 6, 7)", x.findLastFrom(0, 6, 7), 5);
        Check.due("findLastFrom(0, 6, greatest)", x.findLastFrom(0, 6, GREATEST), 5);
        Check.due("findLastFrom(1, 6, 0), of an empty one", x.findLastFrom(1, 6, 0), NONE);
        Check.noSuchTape(x, "findLastFrom", tape -> x.findLastFrom(tape, 0, 0));
        Check.noSuchWord(x, "findLastFrom", word -> x.findLastFrom(0, word, 0));
        Check.index(x, "findLastFrom(4, -1, 0)", () -> x.findLastFrom(4, -1, 0));
        Tapebuffer start = Check.with("bcd");
        Check.due("findLastFrom(0, 6, 0), at the start", start.findLastFrom(0, 6, 0), 0);
        Check.due("findLastFrom(0, 6, -1), at the start", start.findLastFrom(0, 6, -1), NONE);
    }

    private static void findTape() {
        Tapebuffer x = Check.with("abaXabaY", "aba", "", "abaXabaYZ");
        Check.due("findTape(0, 1)", x.findTape(0, 1), 0);
        Check.due("findTape(0, 0)", x.findTape(0, 0), 0);
        Check.due("findTape(0, 2), an empty one", x.findTape(0, 2), 0);
        Check.due("findTape(2, 2), empty both", x.findTape(2, 2), 0);
        Check.due("findTape(0, 3), longer than it", x.findTape(0, 3), NONE);
        Check.due("findTape(2, 1), in an empty one", x.findTape(2, 1), NONE);
        x.setSign(0, 0, 255);
        Check.due("findTape(0, 1), later", x.findTape(0, 1), 4);
        Check.noSuchTape(x, "findTape", tape -> x.findTape(tape, 0));
        Check.noSuchTape(x, "findTape, other", tape -> x.findTape(0, tape));
    }

    private static void findTapeLast() {
        Tapebuffer x = Check.with("abaXababa", "aba", "", "abaXababaZ");
        Check.due("findTapeLast(0, 1)", x.findTapeLast(0, 1), 6);
        Check.due("findTapeLast(0, 0)", x.findTapeLast(0, 0), 0);
        Check.due("findTapeLast(0, 2), an empty one", x.findTapeLast(0, 2), 9);
        Check.due("findTapeLast(2, 2), empty both", x.findTapeLast(2, 2), 0);
        Check.due("findTapeLast(0, 3), longer than it", x.findTapeLast(0, 3), NONE);
        Check.due("findTapeLast(2, 1), in an empty one", x.findTapeLast(2, 1), NONE);
        x.takeSign(0, 8);
        Check.due("findTapeLast(0, 1), earlier", x.findTapeLast(0, 1), 4);
        Check.noSuchTape(x, "findTapeLast", tape -> x.findTapeLast(tape, 0));
        Check.noSuchTape(x, "findTapeLast, other", tape -> x.findTapeLast(0, tape));
        Tapebuffer full = Check.withLength(200);
        Check.due("findTapeLast(0, 1), an empty one in 200", full.findTapeLast(0, 1), 200);
    }

    private static void findSign() {
        Tapebuffer x = Check.with("ab\u00ff\0b");
        Check.due("findSign(0, 97), at the start", x.findSign(0, 'a'), 0);
        Check.due("findSign(0, 98)", x.findSign(0, 'b'), 1);
        Check.due("findSign(0, 255)", x.findSign(0, 255), 2);
        Check.due("findSign(0, 0)", x.findSign(0, 0), 3);
        Check.due("findSign(0, 99)", x.findSign(0, 'c'), NONE);
        Check.due("findSign(1, 0), of an empty one", x.findSign(1, 0), NONE);
        Check.noSuchTape(x, "findSign", tape -> x.findSign(tape, 0));
        Check.noSuchSign(x, "findSign", sign -> x.findSign(0, sign));
        Check.index(x, "findSign(4, 256)", () -> x.findSign(4, 256));
    }

    private static void has() {
        Tapebuffer x = Check.with("xbcd", "");
        Check.due("has(0, 27)", x.has(0, 27), true);
        Check.due("has(0, 6)", x.has(0, 6), true);
        Check.due("has(0, 3)", x.has(0, 3), true);
        Check.due("has(0, 0)", x.has(0, 0), false);
        Check.due("has(0, 109), half of it at the end", x.has(0, 109), false);
        Check.due("has(1, 0), an empty one", x.has(1, 0), false);
        Tapebuffer start = Check.with("bcd");
        Check.due("has(0, 6), at the start", start.has(0, 6), true);
        Check.noSuchTape(x, "has", tape -> x.has(tape, 0));
        Check.noSuchWord(x, "has", word -> x.has(0, word));
        Check.index(x, "has(4, -1)", () -> x.has(4, -1));
    }
}

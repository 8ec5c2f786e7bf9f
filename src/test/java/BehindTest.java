/** Promises 1 to 10: a new object, and what is put behind a tape. */
public final class BehindTest {
    public static void main(String[] args) {
        newObject();
        addWord();
        addNumber();
        addLong();
        addSign();
        addTruth();
        addRow();
        addTape();
        addOften();
        addThree();
        Check.end();
    }

    private static void newObject() {
        Tapebuffer x = new Tapebuffer();
        for (int tape = 0; tape < 4; tape++) {
            Check.due("new: length", x.length(tape), 0);
            Check.due("new: text", x.text(tape), "");
        }
        Check.due("new: seen", x.seen(), "");
        Check.due("new: watched(0)", x.watched(0), 0);
        Check.due("new: house(0)", x.house(0), 0);
        Check.due("new: house(1)", x.house(1), 4);
        Check.due("new: house(2)", x.house(2), 0);
        Check.due("new: house(3)", x.house(3), 0);
        Check.due("new: house(4)", x.house(4), 0);
        Tapebuffer y = new Tapebuffer();
        x.addWord(0, 27);
        Check.due("another new object: text", y.text(0), "");
    }

    private static void addWord() {
        Tapebuffer x = new Tapebuffer();
        Check.act("addWord(0, 0)", x, () -> x.addWord(0, 0), 1, "a");
        Check.act("addWord(0, 27)", x, () -> x.addWord(0, 27), 4, "abcd");
        Check.act("addWord(0, 4)", x, () -> x.addWord(0, 4), 6, "abcdba");
        Check.act("addWord(0, 9999)", x, () -> x.addWord(0, 9999), 13, "abcdbacbdaadd");
        Check.due("addWord(3, 1)", x.addWord(3, 1), 1);
        Check.due("addWord(3, 1), then text(3)", x.text(3), "b");
        Check.noSuchTape(x, "addWord", tape -> x.addWord(tape, 0));
        Check.noSuchWord(x, "addWord", word -> x.addWord(0, word));
        Check.index(x, "addWord(4, -1)", () -> x.addWord(4, -1));

        Tapebuffer full = Check.withLength(193);
        Check.due("addWord to 200", full.addWord(0, 9999), 200);
        Check.refused(full, "addWord to 201", () -> full.addWord(0, 0));
        Check.argument(full, "addWord(0, 10000), full", () -> full.addWord(0, 10000));
        Tapebuffer nearly = Check.withLength(194);
        Check.refused(nearly, "addWord of 7 signs to 201", () -> nearly.addWord(0, 9999));
    }

    private static void addNumber() {
        Tapebuffer x = new Tapebuffer();
        Check.act("addNumber(0, 0)", x, () -> x.addNumber(0, 0), 1, "0");
        Check.act("addNumber(0, -1)", x, () -> x.addNumber(0, -1), 3, "0-1");
        Check.act("addNumber(0, 1090)", x, () -> x.addNumber(0, 1090), 7, "0-11090");
        x.setLength(0, 0);
        Check.act("addNumber of the least", x, () -> x.addNumber(0, -2147483648), 11, "-2147483648");
        Check.act("addNumber of the greatest", x, () -> x.addNumber(0, 2147483647), 21, "-21474836482147483647");
        Check.noSuchTape(x, "addNumber", tape -> x.addNumber(tape, 0));

        Tapebuffer full = Check.withLength(189);
        Check.due("addNumber to 200", full.addNumber(0, -2147483648), 200);
        full.setLength(0, 190);
        Check.refused(full, "addNumber to 201", () -> full.addNumber(0, -2147483648));
        Check.index(full, "addNumber(4, -2147483648)", () -> full.addNumber(4, -2147483648));
    }

    private static void addLong() {
        Check.due("addLong 0, 0", addedLong(0, 0), "0");
        Check.due("addLong 0, -1", addedLong(0, -1), "-1");
        Check.due("addLong 1, 0", addedLong(1, 0), "4294967296");
        Check.due("addLong 1, -1", addedLong(1, -1), "4294967295");
        Check.due("addLong -1, 1", addedLong(-1, 1), "-4294967295");
        Check.due("addLong least, 0", addedLong(-2147483648, 0), "-9223372036854775808");
        Check.due("addLong least, -1", addedLong(-2147483648, -1), "9223372036854775807");
        Check.due("addLong greatest, greatest", addedLong(2147483647, 2147483647), "9223372034707292159");
        Tapebuffer x = Check.with("xy");
        Check.act("addLong(0, 0, 12)", x, () -> x.addLong(0, 0, 12), 4, "xy12");
        Check.noSuchTape(x, "addLong", tape -> x.addLong(tape, 0, 0));

        Tapebuffer full = Check.withLength(180);
        Check.due("addLong to 200", full.addLong(0, -2147483648, 0), 200);
        full.setLength(0, 181);
        Check.refused(full, "addLong to 201", () -> full.addLong(0, -2147483648, 0));
    }

    private static String addedLong(int a, int b) {
        Tapebuffer x = new Tapebuffer();
        int length = x.addLong(1, a, b);
        Check.due("addLong, how long", length, x.text(1).length());
        return x.text(1);
    }

    private static void addSign() {
        Tapebuffer x = new Tapebuffer();
        Check.act("addSign(0, 0)", x, () -> x.addSign(0, 0), 1, "\0");
        Check.act("addSign(0, 255)", x, () -> x.addSign(0, 255), 2, "\0\u00ff");
        Check.act("addSign(0, 65)", x, () -> x.addSign(0, 65), 3, "\0\u00ffA");
        Check.noSuchTape(x, "addSign", tape -> x.addSign(tape, 65));
        Check.noSuchSign(x, "addSign", sign -> x.addSign(0, sign));
        Check.index(x, "addSign(-1, 256)", () -> x.addSign(-1, 256));

        Tapebuffer full = Check.withLength(199);
        Check.due("addSign to 200", full.addSign(0, 1), 200);
        Check.refused(full, "addSign to 201", () -> full.addSign(0, 1));
        Check.argument(full, "addSign(0, 256), full", () -> full.addSign(0, 256));
    }

    private static void addTruth() {
        Tapebuffer x = new Tapebuffer();
        Check.act("addTruth(0, true)", x, () -> x.addTruth(0, true), 4, "true");
        Check.act("addTruth(0, false)", x, () -> x.addTruth(0, false), 9, "truefalse");
        Check.noSuchTape(x, "addTruth", tape -> x.addTruth(tape, true));

        Tapebuffer full = Check.withLength(196);
        Check.refused(full, "addTruth to 201", () -> full.addTruth(0, false));
        Check.due("addTruth to 200", full.addTruth(0, true), 200);
        Check.refused(full, "addTruth to 204", () -> full.addTruth(0, true));
    }

    private static void addRow() {
        Tapebuffer x = Check.with("-");
        Check.act("addRow(0, 99, 98, 97)", x, () -> x.addRow(0, 99, 98, 97), 4, "-cba");
        Check.act("addRow(0, 0, 255, 128)", x, () -> x.addRow(0, 0, 255, 128), 7, "-cba\0\u00ff\u0080");
        Check.noSuchTape(x, "addRow", tape -> x.addRow(tape, 1, 2, 3));
        Check.noSuchSign(x, "addRow, first", sign -> x.addRow(0, sign, 2, 3));
        Check.noSuchSign(x, "addRow, second", sign -> x.addRow(0, 1, sign, 3));
        Check.noSuchSign(x, "addRow, third", sign -> x.addRow(0, 1, 2, sign));
        Check.index(x, "addRow(4, 256, 0, 0)", () -> x.addRow(4, 256, 0, 0));

        Tapebuffer full = Check.withLength(197);
        Check.due("addRow to 200", full.addRow(0, 1, 2, 3), 200);
        full.setLength(0, 198);
        Check.refused(full, "addRow to 201", () -> full.addRow(0, 1, 2, 3));
        Check.argument(full, "addRow to 201 with sign 256", () -> full.addRow(0, 1, 2, 256));
    }

    private static void addTape() {
        Tapebuffer x = Check.with("ab", "cd");
        Check.act("addTape(0, 1)", x, () -> x.addTape(0, 1), 4, "abcd");
        Check.due("addTape(0, 1), then text(1)", x.text(1), "cd");
        Check.act("addTape(0, 0)", x, () -> x.addTape(0, 0), 8, "abcdabcd");
        Check.act("addTape(0, 2)", x, () -> x.addTape(0, 2), 8, "abcdabcd");
        Check.noSuchTape(x, "addTape", tape -> x.addTape(tape, 1));
        Check.noSuchTape(x, "addTape, other", tape -> x.addTape(0, tape));

        Tapebuffer full = Check.withLength(100);
        Check.due("addTape(0, 0) to 200", full.addTape(0, 0), 200);
        Check.refused(full, "addTape(0, 0) to 400", () -> full.addTape(0, 0));
        Check.due("addTape(0, 1) of an empty one to 200", full.addTape(0, 1), 200);
        full.addSign(1, 1);
        Check.refused(full, "addTape(0, 1) to 201", () -> full.addTape(0, 1));
        Check.index(full, "addTape(0, 4), full", () -> full.addTape(0, 4));
    }

    private static void addOften() {
        Tapebuffer x = Check.with("x");
        Check.act("addOften(0, 6, 3)", x, () -> x.addOften(0, 6, 3), 7, "xbcbcbc");
        Check.act("addOften(0, 6, 0)", x, () -> x.addOften(0, 6, 0), 7, "xbcbcbc");
        Check.act("addOften(0, 0, 1)", x, () -> x.addOften(0, 0, 1), 8, "xbcbcbca");
        Check.due("addOften(1, 9999, 20)", x.addOften(1, 9999, 20), 140);
        Check.due("addOften(1, 9999, 20), then the last 14", x.rest(1, 126), "cbdaaddcbdaadd");
        Check.noSuchTape(x, "addOften", tape -> x.addOften(tape, 1, 1));
        Check.noSuchWord(x, "addOften", word -> x.addOften(0, word, 1));
        for (int often : new int[] {-1, 21, Integer.MIN_VALUE, Integer.MAX_VALUE}) {
            Check.argument(x, "addOften so many times: " + often, () -> x.addOften(0, 1, often));
        }
        Check.index(x, "addOften(4, 10000, 21)", () -> x.addOften(4, 10000, 21));

        Tapebuffer full = Check.withLength(160);
        Check.due("addOften to 200", full.addOften(0, 6, 20), 200);
        Check.due("addOften of none to 200", full.addOften(0, 6, 0), 200);
        full.setLength(0, 161);
        Check.refused(full, "addOften to 201", () -> full.addOften(0, 6, 20));
        Check.argument(full, "addOften 21 times, full", () -> full.addOften(0, 6, 21));
    }

    private static void addThree() {
        Tapebuffer x = Check.with("x");
        Check.act("addThree(0, 27, 44, -5)", x, () -> x.addThree(0, 27, 44, -5), 7, "xbcd,-5");
        Check.act("addThree(0, 0, 255, 0)", x, () -> x.addThree(0, 0, 255, 0), 10, "xbcd,-5a\u00ff0");
        Check.noSuchTape(x, "addThree", tape -> x.addThree(tape, 1, 1, 1));
        Check.noSuchWord(x, "addThree", word -> x.addThree(0, word, 1, 1));
        Check.noSuchSign(x, "addThree", sign -> x.addThree(0, 1, sign, 1));
        Check.index(x, "addThree(4, -1, -1, 0)", () -> x.addThree(4, -1, -1, 0));

        Tapebuffer full = Check.withLength(181);
        Check.due("addThree to 200", full.addThree(0, 9999, 0, -2147483648), 200);
        full.setLength(0, 182);
        Check.refused(full, "addThree to 201", () -> full.addThree(0, 9999, 0, -2147483648));
        Check.argument(full, "addThree with sign 256, full", () -> full.addThree(0, 9999, 256, -2147483648));
    }
}

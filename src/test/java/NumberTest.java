/** Promise 45: numbers that are read. */
public final class NumberTest {
    public static void main(String[] args) {
        numbers();
        noNumbers();
        limits();
        digits();
        parts();
        wrongInputs();
        Check.end();
    }

    private static String read(String text, int base) {
        return Check.with(text).number(0, 0, text.length(), base);
    }

    private static void is(String text, int base, String want) {
        Check.due("number of \"" + text + "\" by " + base, read(text, base), want);
    }

    private static void numbers() {
        is("0", 10, "0");
        is("-0", 10, "0");
        is("+0", 10, "0");
        is("+7", 10, "7");
        is("-7", 10, "-7");
        is("007", 10, "7");
        is("-1010", 2, "-10");
        is("zZ", 36, "1295");
        is("fF", 16, "255");
        is("0".repeat(190) + "12", 10, "12");
        is("-" + "0".repeat(199), 2, "0");
        is("1" + "0".repeat(30), 2, "1073741824");
    }

    private static void noNumbers() {
        for (String text : new String[] {
            "", "-", "+", "--1", "++1", "+-1", "-+1", "1-", "1+", "1-1", " 1", "1 ", "1.0", "a", "A", "0x1",
            "\0", "1\0", "\u00b2", "\u00b9", "\u00ff", "/", ":", "@", "[", "`", "{"}) {
            is(text, 10, "-");
        }
        is("2", 2, "-");
        is("z", 35, "-");
        is("g", 16, "-");
        is("@", 36, "-");
        is("[", 36, "-");
        is("`", 36, "-");
        is("{", 36, "-");
        is("/", 36, "-");
        is(":", 36, "-");
    }

    private static void limits() {
        is("2147483647", 10, "2147483647");
        is("+2147483647", 10, "2147483647");
        is("2147483648", 10, "-");
        is("+2147483648", 10, "-");
        is("-2147483648", 10, "-2147483648");
        is("-2147483649", 10, "-");
        is("zik0zj", 36, "2147483647");
        is("zik0zk", 36, "-");
        is("-zik0zk", 36, "-2147483648");
        is("-zik0zl", 36, "-");
        is("4294967296", 10, "-");
        is("4294967297", 10, "-");
        is("18446744073709551617", 10, "-");
        is("1".repeat(200), 2, "-");
        is("-" + "z".repeat(199), 36, "-");
        is("1" + "0".repeat(199), 16, "-");
        is("1" + "0".repeat(199), 10, "-");
    }

    /** Each sign by each base: Java's own table tells the due answer of the signs up to 127. */
    private static void digits() {
        for (int base = 2; base <= 36; base++) {
            for (int sign = 0; sign < 256; sign++) {
                int digit = sign > 127 ? -1 : Character.digit((char) sign, base);
                Tapebuffer x = new Tapebuffer();
                x.addSign(0, sign);
                String want = digit < 0 ? "-" : Integer.toString(digit);
                Check.due("number of sign " + sign + " by " + base, x.number(0, 0, 1, base), want);
            }
        }
    }

    private static void parts() {
        Tapebuffer x = Check.with("ab-12cd", "5");
        Check.due("number(0, 2, 5, 10)", x.number(0, 2, 5, 10), "-12");
        Check.due("number(0, 3, 4, 10)", x.number(0, 3, 4, 10), "1");
        Check.due("number(0, 3, 7, 16)", x.number(0, 3, 7, 16), "4813");
        Check.due("number(0, 2, 3, 10)", x.number(0, 2, 3, 10), "-");
        Check.due("number(0, 3, 3, 10)", x.number(0, 3, 3, 10), "-");
        Check.due("number(0, 7, 7, 10)", x.number(0, 7, 7, 10), "-");
        Check.due("number(1, 0, 1, 10)", x.number(1, 0, 1, 10), "5");
        Check.due("number, then text(0)", x.text(0), "ab-12cd");
        Check.due("number, then text(1)", x.text(1), "5");
        Tapebuffer ends = Check.with("-1");
        ends.setLength(0, 1);
        Check.due("number of \"-\", a digit was cut off", ends.number(0, 0, 1, 10), "-");
    }

    private static void wrongInputs() {
        Tapebuffer x = Check.with("123");
        Check.noSuchTape(x, "number", tape -> x.number(tape, 0, 0, 10));
        for (int place : new int[] {-1, 4, Integer.MIN_VALUE, Integer.MAX_VALUE}) {
            Check.index(x, "number(0, " + place + ", 3, 10)", () -> x.number(0, place, 3, 10));
            Check.index(x, "number(0, 2, " + place + ", 37)", () -> x.number(0, 2, place, 37));
        }
        for (int base : new int[] {-1, 0, 1, 37, Integer.MIN_VALUE, Integer.MAX_VALUE}) {
            Check.argument(x, "number(0, 0, 3, " + base + ")", () -> x.number(0, 0, 3, base));
        }
        Check.argument(x, "number(0, 2, 1, 10)", () -> x.number(0, 2, 1, 10));
        Check.argument(x, "number(0, 3, 0, 1)", () -> x.number(0, 3, 0, 1));
    }
}

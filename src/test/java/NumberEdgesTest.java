import java.math.BigInteger;

/** Promise 45, and "2. Numbers that are read", sentence by sentence: the boundary cases of a number. */
public final class NumberEdgesTest {
    private static final String NONE = "-";
    private static final String LIMITS = "and what it tells is -2147483648 to 2147483647";
    private static final BigInteger LEAST = BigInteger.valueOf(Integer.MIN_VALUE);
    private static final BigInteger GREATEST = BigInteger.valueOf(Integer.MAX_VALUE);

    public static void main(String[] args) {
        parts();
        asDigits();
        none();
        wrongPlaces();
        lessThanFrom();
        bases();
        oneOrMoreDigits();
        signAhead();
        digitBehindSign();
        letters();
        lessThanBase();
        limits();
        limitsOfLongParts();
        noDigitsAbove();
        Sentences.allNamed(45, 45);
        Sentences.allNamed(Sentences.NUMBERS, Sentences.NUMBERS);
        Check.end();
    }

    private static void is(String row, int base, String answer) {
        Edge.asks("number of \"" + row + "\" by " + base, Check.with(row), x -> x.number(0, 0, row.length(), base), answer);
    }

    /** By each base. */
    private static void isAlways(String row, String answer) {
        for (int base = 2; base <= 36; base++) {
            is(row, base, answer);
        }
    }

    private static void parts() {
        Sentences.of(45, "Returns the number that the part is by BASE");
        String row = "12345";
        for (int from = 0; from <= row.length(); from++) {
            for (int to = from; to <= row.length(); to++) {
                int first = from;
                int behind = to;
                Edge.asks("number(0, " + from + ", " + to + ", 10)", Check.with(row), x -> x.number(0, first, behind, 10),
                    from == to ? NONE : row.substring(from, to));
            }
        }
        Edge.asks("number between other signs", Check.with("x-12y"), x -> x.number(0, 1, 4, 10), "-12");
        Edge.asks("number of the last of 200", digitAtEnd(), x -> x.number(0, 199, 200, 10), "7");
        Edge.asks("number of the last two of 200", digitAtEnd(), x -> x.number(0, 198, 200, 36), "367");
    }

    private static Tapebuffer digitAtEnd() {
        Tapebuffer x = Edge.full();
        x.setSign(0, 199, '7');
        return x;
    }

    private static void asDigits() {
        Sentences.of(45, "as digits by 10");
        isAlways("0", "0");
        isAlways("1", "1");
        isAlways("-1", "-1");
        isAlways("-0", "0");
        isAlways("+0", "0");
        isAlways("000", "0");
        for (int base = 2; base <= 36; base++) {
            is("10", base, Integer.toString(base));
            is("-11", base, Integer.toString(-base - 1));
            is("+101", base, Integer.toString(base * base + 1));
        }
    }

    private static void none() {
        Sentences.of(45, "\"-\" if it is none");
        isAlways("x-", NONE);
        isAlways(" ", NONE);
        isAlways("1 ", NONE);
        isAlways(" 1", NONE);
        isAlways("1.1", NONE);
        isAlways("1_1", NONE);
        isAlways("1-", NONE);
        isAlways("1+1", NONE);
        isAlways("\0", NONE);
        isAlways("1\0", NONE);
        isAlways("\u00001", NONE);
    }

    private static void wrongPlaces() {
        Edge.tapes(45, "number", (x, tape) -> x.number(tape, 0, 0, 10));
        Sentences.of(45, "from is not 0 to its length");
        Edge.placesOrEnd("number from", (x, from) -> x.number(0, from, x.length(0), 10));
        Sentences.of(45, "to not 0 to its length");
        Edge.placesOrEnd("number to", (x, to) -> x.number(0, 0, to, 10));
        Tapebuffer x = Edge.furnished();
        Check.index(x, "number(0, 1, -1, 37)", () -> x.number(0, 1, -1, 37));
        Check.index(x, "number(0, 8, 7, 1)", () -> x.number(0, 8, 7, 1));
    }

    private static void lessThanFrom() {
        Sentences.of(45, "to is less than from");
        int end = Edge.FIRST.length();
        for (int from = 1; from <= end; from++) {
            int first = from;
            for (int to = 0; to < from; to++) {
                int behind = to;
                Tapebuffer x = Edge.furnished();
                Check.argument(x, "number(0, " + from + ", " + to + ", 10)", () -> x.number(0, first, behind, 10));
            }
        }
    }

    private static void bases() {
        Sentences.of(45, "base is not 2 to 36");
        Edge.argument("number by", 2, 36, (x, base) -> x.number(0, 0, 1, base));
        Edge.argument("number of none by", Edge::empty, 2, 36, (x, base) -> x.number(0, 0, 0, base));
        for (int base : new int[] {0, -1, -2, -36, 35 + 256}) {
            Tapebuffer x = Edge.furnished();
            Check.argument(x, "number by " + base, () -> x.number(0, 0, 1, base));
        }
        Sentences.of(Sentences.NUMBERS, "A part of a TAPE is a number by a BASE (2 to 36)");
        is("1", 2, "1");
        is("2", 2, NONE);
        is("z", 36, "35");
        is("{", 36, NONE);
    }

    private static void oneOrMoreDigits() {
        Sentences.of(Sentences.NUMBERS, "if it is one or more digits");
        isAlways("", NONE);
        Edge.asks("number of none ahead of a digit", Check.with("1"), x -> x.number(0, 0, 0, 10), NONE);
        Edge.asks("number of none behind a digit", Check.with("1"), x -> x.number(0, 1, 1, 10), NONE);
        is("5", 10, "5");
        is("55", 10, "55");
        isAlways("0".repeat(200), "0");
        isAlways("0".repeat(199) + "1", "1");
    }

    private static void signAhead() {
        Sentences.of(Sentences.NUMBERS, "perhaps with one \"-\" or one \"+\" ahead");
        isAlways("-1", "-1");
        isAlways("+1", "1");
        isAlways("--1", NONE);
        isAlways("++1", NONE);
        isAlways("+-1", NONE);
        isAlways("-+1", NONE);
        isAlways("1-1", NONE);
        // The signs beside "+" and "-".
        for (char sign : new char[] {'*', ',', '.', '/', ' ', '\u00ad', '\u00ab'}) {
            isAlways(sign + "1", NONE);
        }
    }

    private static void digitBehindSign() {
        Sentences.of(Sentences.NUMBERS, "and behind that a digit at least");
        isAlways("-", NONE);
        isAlways("+", NONE);
        isAlways("--", NONE);
        isAlways("- 1", NONE);
        Edge.asks("number of \"-\" ahead of a digit", Check.with("-1"), x -> x.number(0, 0, 1, 10), NONE);
        Edge.asks("number of \"+\" ahead of a digit", Check.with("+1"), x -> x.number(0, 0, 1, 10), NONE);
        Edge.asks("number of \"-\" at the end of 200", minusAtEnd(), x -> x.number(0, 199, 200, 36), NONE);
    }

    private static Tapebuffer minusAtEnd() {
        Tapebuffer x = Edge.full();
        x.setSign(0, 199, '-');
        return x;
    }

    private static void letters() {
        Sentences.of(Sentences.NUMBERS,
            "each digit \"0\" to \"9\", or a letter \"a\" to \"z\", \"A\" to \"Z\" for 10 to 35");
        for (int digit = 0; digit < 36; digit++) {
            is(Integer.toString(digit, 36), 36, Integer.toString(digit));
            is(Integer.toString(digit, 36).toUpperCase(), 36, Integer.toString(digit));
        }
        is("aA", 36, "370");
        is("Zz", 36, "1295");
        for (char sign : new char[] {'/', ':', '@', '[', '`', '{'}) {
            isAlways(String.valueOf(sign), NONE);
            isAlways("1" + sign, NONE);
        }
    }

    private static void lessThanBase() {
        Sentences.of(Sentences.NUMBERS, "less than BASE");
        for (int base = 2; base <= 36; base++) {
            String most = Integer.toString(base - 1, 36);
            is(most, base, Integer.toString(base - 1));
            is(most.toUpperCase(), base, Integer.toString(base - 1));
            is("-" + most, base, Integer.toString(1 - base));
            for (int digit = base; digit < 36; digit++) {
                String beyond = Integer.toString(digit, 36);
                is(beyond, base, NONE);
                is(beyond.toUpperCase(), base, NONE);
                is("0" + beyond, base, NONE);
                is(beyond + "0", base, NONE);
            }
        }
    }

    /** By each base the least and the greatest number, and the first ones beyond. */
    private static void limits() {
        Sentences.of(Sentences.NUMBERS, LIMITS);
        for (int base = 2; base <= 36; base++) {
            String greatest = GREATEST.toString(base);
            String beyond = GREATEST.add(BigInteger.ONE).toString(base);
            String least = LEAST.toString(base);
            String below = LEAST.subtract(BigInteger.ONE).toString(base);
            is(greatest, base, "2147483647");
            is("+" + greatest, base, "2147483647");
            is(greatest.toUpperCase(), base, "2147483647");
            is("-" + greatest, base, "-2147483647");
            is(beyond, base, NONE);
            is("+" + beyond, base, NONE);
            is(least, base, "-2147483648");
            is(least.toUpperCase(), base, "-2147483648");
            is(below, base, NONE);
            is("0".repeat(150) + greatest, base, "2147483647");
            is("0".repeat(150) + beyond, base, NONE);
            is("-" + "0".repeat(150) + least.substring(1), base, "-2147483648");
            is("-" + "0".repeat(150) + below.substring(1), base, NONE);
        }
    }

    /** What would wrap around to a number, by 32 or by 64 binary digits, tells too much. */
    private static void limitsOfLongParts() {
        Sentences.of(Sentences.NUMBERS, LIMITS);
        for (int base = 2; base <= 36; base++) {
            for (int digits : new int[] {32, 33, 63, 64, 65, 128}) {
                BigInteger sum = BigInteger.ONE.shiftLeft(digits);
                for (int more = -1; more <= 1; more++) {
                    String row = sum.add(BigInteger.valueOf(more)).toString(base);
                    is(row, base, NONE);
                    is("-" + row, base, NONE);
                }
            }
            is("1".repeat(200 - base) + "0".repeat(base), base, NONE);
            is("-1" + "0".repeat(198), base, NONE);
        }
    }

    private static void noDigitsAbove() {
        Sentences.of(Sentences.NUMBERS, "SIGNS above 127 are no digits");
        for (int sign = 127; sign < 256; sign++) {
            String one = String.valueOf((char) sign);
            is(one, 36, NONE);
            is(one, 10, NONE);
            is("1" + one, 36, NONE);
            is(one + "1", 36, NONE);
            is("-" + one, 36, NONE);
        }
    }
}

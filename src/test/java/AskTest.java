/** Promises 28 to 32 and 41 to 47: what else is asked of a tape. */
public final class AskTest {
    private static final int GREATEST = Integer.MAX_VALUE;
    private static final int LEAST = Integer.MIN_VALUE;

    public static void main(String[] args) {
        length();
        sign();
        text();
        part();
        rest();
        compare();
        apart();
        isLike();
        hash();
        isBlank();
        trimmed();
        Check.end();
    }

    private static void length() {
        Tapebuffer x = Check.with("abc", "", "x");
        Check.due("length(0)", x.length(0), 3);
        Check.due("length(1)", x.length(1), 0);
        Check.due("length(2)", x.length(2), 1);
        Check.due("length of 200", Check.withLength(200).length(0), 200);
        Check.noSuchTape(x, "length", tape -> x.length(tape));
    }

    private static void sign() {
        Tapebuffer x = Check.with("a\0\u00ff");
        Check.due("sign(0, 0)", x.sign(0, 0), (int) 'a');
        Check.due("sign(0, 1)", x.sign(0, 1), 0);
        Check.due("sign(0, 2)", x.sign(0, 2), 255);
        Check.noSuchTape(x, "sign", tape -> x.sign(tape, 0));
        for (int place : new int[] {-1, 3, 200, LEAST, GREATEST}) {
            Check.index(x, "sign(0, " + place + ")", () -> x.sign(0, place));
        }
        Check.index(x, "sign(1, 0), of an empty one", () -> x.sign(1, 0));
        x.setLength(0, 1);
        Check.index(x, "sign(0, 1), of what was cut off", () -> x.sign(0, 1));
    }

    private static void text() {
        StringBuilder all = new StringBuilder();
        for (char sign = 56; sign < 256; sign++) {
            all.append(sign);
        }
        Check.due("text(0) of 200 signs", Check.with(all.toString()).text(0), all.toString());
        Tapebuffer x = Check.with("\0\t\n\177 \u0080\u00ff", "");
        Check.due("text(0)", x.text(0), "\0\t\n\177 \u0080\u00ff");
        Check.due("text(1)", x.text(1), "");
        Check.noSuchTape(x, "text", tape -> x.text(tape));
    }

    private static void part() {
        Tapebuffer x = Check.with("abcde", "");
        Check.due("part(0, 1, 3)", x.part(0, 1, 3), "bc");
        Check.due("part(0, 0, 5)", x.part(0, 0, 5), "abcde");
        Check.due("part(0, 2, 2)", x.part(0, 2, 2), "");
        Check.due("part(0, 5, 5)", x.part(0, 5, 5), "");
        Check.due("part(1, 0, 0)", x.part(1, 0, 0), "");
        Check.noSuchTape(x, "part", tape -> x.part(tape, 0, 0));
        for (int place : new int[] {-1, 6, LEAST, GREATEST}) {
            Check.index(x, "part(0, " + place + ", 5)", () -> x.part(0, place, 5));
            Check.index(x, "part(0, 3, " + place + ")", () -> x.part(0, 3, place));
        }
        Check.argument(x, "part(0, 3, 2)", () -> x.part(0, 3, 2));
        Check.argument(x, "part(0, 5, 0)", () -> x.part(0, 5, 0));
        Check.index(x, "part(0, 6, 5)", () -> x.part(0, 6, 5));
    }

    private static void rest() {
        Tapebuffer x = Check.with("abcde", "");
        Check.due("rest(0, 0)", x.rest(0, 0), "abcde");
        Check.due("rest(0, 3)", x.rest(0, 3), "de");
        Check.due("rest(0, 5)", x.rest(0, 5), "");
        Check.due("rest(1, 0)", x.rest(1, 0), "");
        Check.noSuchTape(x, "rest", tape -> x.rest(tape, 0));
        for (int from : new int[] {-1, 6, LEAST, GREATEST}) {
            Check.index(x, "rest(0, " + from + ")", () -> x.rest(0, from));
        }
    }

    private static void compare() {
        Tapebuffer x = Check.with("abc", "abd", "ab", "");
        Check.due("compare(0, 1)", x.compare(0, 1), -1);
        Check.due("compare(1, 0)", x.compare(1, 0), 1);
        Check.due("compare(0, 2)", x.compare(0, 2), 1);
        Check.due("compare(2, 0)", x.compare(2, 0), -1);
        Check.due("compare(2, 3)", x.compare(2, 3), 1);
        Check.due("compare(3, 2)", x.compare(3, 2), -1);
        Check.due("compare(3, 3)", x.compare(3, 3), 0);
        Check.due("compare(0, 0)", x.compare(0, 0), 0);
        x.setSign(0, 2, 'd');
        Check.due("compare(0, 1), alike", x.compare(0, 1), 0);
        x.setSign(1, 0, 255);
        Check.due("compare(0, 1), sign 255", x.compare(0, 1), -1);
        x.setSign(2, 0, 'b');
        Check.due("compare(2, 0), the shorter one greater", x.compare(2, 0), 1);
        Check.noSuchTape(x, "compare", tape -> x.compare(tape, 0));
        Check.noSuchTape(x, "compare, other", tape -> x.compare(0, tape));
    }

    private static void apart() {
        Tapebuffer x = Check.with("abc", "abf", "a", "");
        Check.due("apart(0, 1)", x.apart(0, 1), -3);
        Check.due("apart(1, 0)", x.apart(1, 0), 3);
        Check.due("apart(0, 2)", x.apart(0, 2), 2);
        Check.due("apart(2, 0)", x.apart(2, 0), -2);
        Check.due("apart(0, 3)", x.apart(0, 3), 3);
        Check.due("apart(3, 3)", x.apart(3, 3), 0);
        Check.due("apart(0, 0)", x.apart(0, 0), 0);
        x.setSign(0, 0, 0);
        x.setSign(1, 0, 255);
        Check.due("apart(0, 1), the most", x.apart(0, 1), -255);
        Check.due("apart(1, 0), the most", x.apart(1, 0), 255);
        Check.noSuchTape(x, "apart", tape -> x.apart(tape, 0));
        Check.noSuchTape(x, "apart, other", tape -> x.apart(0, tape));
    }

    private static void isLike() {
        Tapebuffer x = Check.with("abc", "abc", "ab", "");
        Check.due("isLike(0, 1)", x.isLike(0, 1), true);
        Check.due("isLike(0, 0)", x.isLike(0, 0), true);
        Check.due("isLike(3, 3)", x.isLike(3, 3), true);
        Check.due("isLike(0, 2)", x.isLike(0, 2), false);
        Check.due("isLike(2, 0)", x.isLike(2, 0), false);
        Check.due("isLike(3, 0)", x.isLike(3, 0), false);
        x.setSign(1, 2, 'C');
        Check.due("isLike(0, 1), the last sign another one", x.isLike(0, 1), false);
        Check.noSuchTape(x, "isLike", tape -> x.isLike(tape, 0));
        Check.noSuchTape(x, "isLike, other", tape -> x.isLike(0, tape));
    }

    private static void hash() {
        Tapebuffer x = Check.with("", "a", "ab\u00ff", "zzzzzzzzzzzz");
        Check.due("hash(0)", x.hash(0), 0);
        Check.due("hash(1)", x.hash(1), 97);
        Check.due("hash(2)", x.hash(2), (97 * 31 + 98) * 31 + 255);
        Check.due("hash(3), wrapped around", x.hash(3), "zzzzzzzzzzzz".hashCode());
        Check.noSuchTape(x, "hash", tape -> x.hash(tape));
    }

    private static void isBlank() {
        for (int sign = 0; sign < 256; sign++) {
            Tapebuffer x = new Tapebuffer();
            x.addSign(0, sign);
            boolean due = sign >= 9 && sign <= 13 || sign >= 28 && sign <= 32;
            Check.due("isBlank(0) of sign " + sign, x.isBlank(0), due);
        }
        Tapebuffer x = Check.with("", "\t\n \034", "  a", "a  ");
        Check.due("isBlank(0)", x.isBlank(0), true);
        Check.due("isBlank(1)", x.isBlank(1), true);
        Check.due("isBlank(2)", x.isBlank(2), false);
        Check.due("isBlank(3)", x.isBlank(3), false);
        Check.noSuchTape(x, "isBlank", tape -> x.isBlank(tape));
    }

    private static void trimmed() {
        for (int sign = 0; sign < 256; sign++) {
            Tapebuffer x = Check.with("..");
            x.setSign(0, 0, sign);
            Check.due("trimmed(0) with sign " + sign + " ahead", x.trimmed(0), sign <= 32 ? "." : x.text(0));
            x.turn(0);
            Check.due("trimmed(0) with sign " + sign + " behind", x.trimmed(0), sign <= 32 ? "." : x.text(0));
        }
        Tapebuffer x = Check.with(" \0a b\037\t", "\0\001 ", "", "ab");
        Check.due("trimmed(0)", x.trimmed(0), "a b");
        Check.due("trimmed(0), then text(0)", x.text(0), " \0a b\037\t");
        Check.due("trimmed(1)", x.trimmed(1), "");
        Check.due("trimmed(2)", x.trimmed(2), "");
        Check.due("trimmed(3)", x.trimmed(3), "ab");
        Check.noSuchTape(x, "trimmed", tape -> x.trimmed(tape));
    }
}

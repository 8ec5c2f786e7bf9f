/** Promises 28 to 32, 41 to 44, 46, 47, sentence by sentence: the boundary cases of what is asked of a tape. */
public final class AskEdgesTest {
    private static final String FIRST = Edge.FIRST;
    /** How many signs a furnished tape 0 has: its end. */
    private static final int END = FIRST.length();

    public static void main(String[] args) {
        length();
        sign();
        text();
        part();
        partWrong();
        rest();
        compare();
        compareSigns();
        apart();
        apartLengths();
        isLike();
        hash();
        isBlank();
        trimmed();
        Sentences.allNamed(28, 32);
        Sentences.allNamed(41, 44);
        Sentences.allNamed(46, 47);
        Check.end();
    }

    private static void length() {
        Sentences.of(28, "Returns its length");
        int[] lengths = {END, 3, 0, 200};
        for (int tape = 0; tape < 4; tape++) {
            int asked = tape;
            Edge.asks("length(" + tape + ")", Edge::furnished, x -> x.length(asked), lengths[tape]);
        }
        Edge.asks("length of 1", () -> Edge.furnished(1), x -> x.length(0), 1);
        Edge.asks("length of 199", () -> Edge.furnished(199), x -> x.length(0), 199);
        Edge.tapes(28, "length", (x, tape) -> x.length(tape));
    }

    private static void sign() {
        Sentences.of(29, "Returns the SIGN there");
        for (int place = 0; place < END; place++) {
            int at = place;
            Edge.asks("sign(0, " + place + ")", Edge::furnished, x -> x.sign(0, at), (int) FIRST.charAt(place));
        }
        Edge.asks("sign(3, 0)", Edge::furnished, x -> x.sign(3, 0), (int) 'b');
        Edge.asks("sign(3, 199)", Edge::furnished, x -> x.sign(3, 199), (int) 'a');
        for (int sign = 0; sign < 256; sign++) {
            Edge.asks("sign(0, 1), sign " + sign, Check.with("a" + (char) sign), x -> x.sign(0, 1), sign);
        }
        Sentences.of(29, "there is no such TAPE");
        Edge.index("sign of tape, full,", Edge::full, 0, 3, (x, tape) -> x.sign(tape, 0));
        Sentences.of(29, "place is not one of its PLACES");
        Edge.places("sign", (x, place) -> x.sign(0, place));
        Tapebuffer cut = Edge.full();
        cut.setLength(0, 5);
        Check.due("sign(0, 4), what is left", cut.sign(0, 4), (int) 'c');
        Check.index(cut, "sign(0, 5), what was cut off", () -> cut.sign(0, 5));
    }

    private static void text() {
        Sentences.of(30, "Returns the whole row as a text");
        Edge.asks("text(0)", Edge::furnished, x -> x.text(0), FIRST);
        Edge.asks("text(2), of none", Edge::furnished, x -> x.text(2), "");
        Edge.asks("text(3), of 200", Edge::furnished, x -> x.text(3), Edge.FULL);
        for (int sign = 0; sign < 256; sign++) {
            Tapebuffer x = new Tapebuffer();
            x.addSign(0, sign);
            Edge.asks("text(0), of sign " + sign, x, y -> y.text(0), String.valueOf((char) sign));
        }
        Edge.tapes(30, "text", (x, tape) -> x.text(tape));
    }

    private static void part() {
        Sentences.of(31, "Returns the part from the one up to the other one");
        for (int from = 0; from <= END; from++) {
            for (int to = from; to <= END; to++) {
                int first = from;
                int behind = to;
                Edge.asks("part(0, " + from + ", " + to + ")", Edge::furnished, x -> x.part(0, first, behind),
                    FIRST.substring(from, to));
            }
        }
        Edge.asks("part(3, 0, 200)", Edge::furnished, x -> x.part(3, 0, 200), Edge.FULL);
        Edge.asks("part(3, 200, 200)", Edge::furnished, x -> x.part(3, 200, 200), "");
        Edge.asks("part(2, 0, 0)", Edge::furnished, x -> x.part(2, 0, 0), "");
        Sentences.of(31, "that not with it");
        Edge.asks("part(0, 3, 3)", Edge::furnished, x -> x.part(0, 3, 3), "");
        Edge.asks("part(0, 3, 4)", Edge::furnished, x -> x.part(0, 3, 4), "b");
        Edge.asks("part(3, 199, 200)", Edge::furnished, x -> x.part(3, 199, 200), "a");
        Sentences.of(31, "as a text");
        for (int sign = 0; sign < 256; sign++) {
            Edge.asks("part(0, 1, 2), sign " + sign, Check.with("a" + (char) sign + "b"), x -> x.part(0, 1, 2),
                String.valueOf((char) sign));
        }
    }

    private static void partWrong() {
        Edge.tapes(31, "part", (x, tape) -> x.part(tape, 0, 0));
        Sentences.of(31, "from is not 0 to its length");
        Edge.placesOrEnd("part from", (x, from) -> x.part(0, from, x.length(0)));
        Sentences.of(31, "to not 0 to its length");
        Edge.placesOrEnd("part to", (x, to) -> x.part(0, 0, to));
        Tapebuffer x = Edge.furnished();
        Check.index(x, "part(0, 7, 8)", () -> x.part(0, END, END + 1));
        Check.index(x, "part(0, 1, -1): no place goes ahead of less", () -> x.part(0, 1, -1));
        Sentences.of(31, "to is less than from");
        for (int from = 0; from <= END; from++) {
            int first = from;
            for (int to = 0; to < from; to++) {
                int behind = to;
                Tapebuffer y = Edge.furnished();
                Check.argument(y, "part(0, " + from + ", " + to + ")", () -> y.part(0, first, behind));
            }
        }
    }

    private static void rest() {
        Sentences.of(32, "Returns all from there on, as a text");
        for (int from = 0; from <= END; from++) {
            int first = from;
            Edge.asks("rest(0, " + from + ")", Edge::furnished, x -> x.rest(0, first), FIRST.substring(from));
        }
        Edge.asks("rest(3, 0)", Edge::furnished, x -> x.rest(3, 0), Edge.FULL);
        Edge.asks("rest(3, 199)", Edge::furnished, x -> x.rest(3, 199), "a");
        Edge.asks("rest(3, 200)", Edge::furnished, x -> x.rest(3, 200), "");
        Edge.asks("rest(2, 0)", Edge::furnished, x -> x.rest(2, 0), "");
        for (int sign : new int[] {0, 127, 128, 255}) {
            Edge.asks("rest(0, 1), sign " + sign, Check.with("a" + (char) sign), x -> x.rest(0, 1),
                String.valueOf((char) sign));
        }
        Edge.tapes(32, "rest", (x, tape) -> x.rest(tape, 0));
        Sentences.of(32, "from is not 0 to its length");
        Edge.placesOrEnd("rest from", (x, from) -> x.rest(0, from));
    }

    /** How the tapes 0 and 1 stand, and the other way round. */
    private static void compares(String one, String other, int answer) {
        Tapebuffer x = Check.with(one, other);
        Edge.asks("compare(0, 1)", x, y -> y.compare(0, 1), answer);
        Edge.asks("compare(1, 0)", x, y -> y.compare(1, 0), -answer);
    }

    private static void compare() {
        Sentences.of(41, "Returns -1 if it is LESS than the other one");
        compares("abc", "abd", -1);
        compares("", "a", -1);
        compares("", "\0", -1);
        compares("ab", "ab\0", -1);
        Sentences.of(41, "1 if that is LESS");
        compares("b", "azzz", 1);
        compares("a\0", "a", 1);
        Sentences.of(41, "0 if both are alike");
        compares("", "", 0);
        compares("\0", "\0", 0);
        compares("abc", "abc", 0);
        for (int tape = 0; tape < 4; tape++) {
            int same = tape;
            Edge.asks("compare(" + tape + ", " + tape + ")", Edge::furnished, x -> x.compare(same, same), 0);
        }
        Edge.asks("compare(0, 3), full both", Edge::full, x -> x.compare(0, 3), 0);
        Edge.asks("compare(0, 3), 199 and 200", () -> Edge.furnished(199), x -> x.compare(0, 3), -1);
        Edge.asks("compare(3, 0), 200 and 199", () -> Edge.furnished(199), x -> x.compare(3, 0), 1);
        Tapebuffer last = Edge.full();
        last.setSign(0, 199, 'b');
        Edge.asks("compare(0, 3), the last of 200", last, x -> x.compare(0, 3), 1);
        Edge.asks("compare(3, 0), the last of 200", last, x -> x.compare(3, 0), -1);
        Edge.otherTapes(41, "compare", (x, tape) -> x.compare(tape, 0));
        Edge.otherTapes(41, "compare, other", (x, tape) -> x.compare(0, tape));
    }

    /** Signs above 127 are greater, not below 0. */
    private static void compareSigns() {
        Sentences.of(41, "LESS");
        for (int sign = 0; sign < 255; sign++) {
            String one = "a" + (char) sign;
            compares(one, "a" + (char) (sign + 1), -1);
            compares(one + "zz", "a" + (char) (sign + 1), -1);
        }
        compares("\u007f", "\u0080", -1);
        compares("\0", "\u00ff", -1);
        compares("z", "\u0080", -1);
    }

    private static void aparts(String one, String other, int answer) {
        Tapebuffer x = Check.with(one, other);
        Edge.asks("apart(0, 1)", x, y -> y.apart(0, 1), answer);
        Edge.asks("apart(1, 0)", x, y -> y.apart(1, 0), -answer);
    }

    private static void apart() {
        Sentences.of(42, "Returns at the first PLACE at which they differ its SIGN less that of the other one");
        aparts("abc", "abd", -1);
        aparts("aaz", "bba", -1);
        aparts("ad", "aazzz", 3);
        aparts("\0", "\u00ff", -255);
        aparts("\u007f", "\u0080", -1);
        aparts("\u00ff", "\u0080", 127);
        aparts("\u0080", "a", 31);
        Tapebuffer last = Edge.full();
        last.setSign(0, 199, 'd');
        Edge.asks("apart(0, 3), the last of 200", last, x -> x.apart(0, 3), 3);
        Edge.asks("apart(3, 0), the last of 200", last, x -> x.apart(3, 0), -3);
    }

    private static void apartLengths() {
        Sentences.of(42, "its length less that of the other one, if there is no such PLACE");
        aparts("", "", 0);
        aparts("a", "", 1);
        aparts("ab", "abcde", -3);
        aparts("a\0\0", "a", 2);
        for (int tape = 0; tape < 4; tape++) {
            int same = tape;
            Edge.asks("apart(" + tape + ", " + tape + ")", Edge::furnished, x -> x.apart(same, same), 0);
        }
        Edge.asks("apart(3, 2), 200 and 0", Edge::furnished, x -> x.apart(3, 2), 200);
        Edge.asks("apart(2, 3), 0 and 200", Edge::furnished, x -> x.apart(2, 3), -200);
        Edge.asks("apart(0, 3), 199 and 200", () -> Edge.furnished(199), x -> x.apart(0, 3), -1);
        Edge.otherTapes(42, "apart", (x, tape) -> x.apart(tape, 0));
        Edge.otherTapes(42, "apart, other", (x, tape) -> x.apart(0, tape));
    }

    private static void alike(String one, String other, boolean answer) {
        Tapebuffer x = Check.with(one, other);
        Edge.asks("isLike(0, 1)", x, y -> y.isLike(0, 1), answer);
        Edge.asks("isLike(1, 0)", x, y -> y.isLike(1, 0), answer);
    }

    private static void isLike() {
        Sentences.of(43, "Returns whether both are alike, sign by sign");
        alike("", "", true);
        alike("", "\0", false);
        alike("\0", "\0", true);
        alike("abc", "abc", true);
        alike("abc", "abd", false);
        alike("abc", "bbc", false);
        alike("abc", "ab", false);
        alike("abc", "abc\0", false);
        alike("\u00ff", "\u007f", false);
        // Other signs of the same hash.
        alike("Aa", "BB", false);
        for (int tape = 0; tape < 4; tape++) {
            int same = tape;
            Edge.asks("isLike(" + tape + ", " + tape + ")", Edge::furnished, x -> x.isLike(same, same), true);
        }
        Edge.asks("isLike(0, 3), full both", Edge::full, x -> x.isLike(0, 3), true);
        Edge.asks("isLike(0, 3), 199 and 200", () -> Edge.furnished(199), x -> x.isLike(0, 3), false);
        Tapebuffer last = Edge.full();
        last.setSign(0, 199, 'b');
        Edge.asks("isLike(0, 3), the last of 200", last, x -> x.isLike(0, 3), false);
        Edge.otherTapes(43, "isLike", (x, tape) -> x.isLike(tape, 0));
        Edge.otherTapes(43, "isLike, other", (x, tape) -> x.isLike(0, tape));
    }

    private static void hash() {
        Sentences.of(44, "A number h starts with 0");
        Edge.asks("hash(2), of none", Edge::furnished, x -> x.hash(2), 0);
        Edge.asks("hash(0), of 200 signs 0", () -> Check.withLength(200), x -> x.hash(0), 0);
        Sentences.of(44, "SIGN by SIGN it becomes h * 31 + SIGN");
        for (int sign = 0; sign < 256; sign++) {
            Edge.asks("hash of sign " + sign, Check.with(String.valueOf((char) sign)), x -> x.hash(0), sign);
            Edge.asks("hash of sign " + sign + " behind another one", Check.with("\1" + (char) sign), x -> x.hash(0),
                31 + sign);
        }
        Sentences.of(44, "which wraps around as a 32-bit integer");
        hashOfSum(2147483647L, Integer.MAX_VALUE);
        hashOfSum(2147483648L, Integer.MIN_VALUE);
        hashOfSum(4294967295L, -1);
        hashOfSum(4294967296L, 0);
        Edge.asks("hash of 7 signs 255", Check.with("\u00ff".repeat(7)), x -> x.hash(0), "\u00ff".repeat(7).hashCode());
        Edge.asks("hash of 200 signs", Edge::full, x -> x.hash(0), Edge.FULL.hashCode());
        Sentences.of(44, "Returns h");
        Edge.asks("hash(0)", Edge::furnished, x -> x.hash(0), FIRST.hashCode());
        Edge.tapes(44, "hash", (x, tape) -> x.hash(tape));
    }

    /** A row whose h would be that sum, if it did not wrap around: the sum's digits by 31. */
    private static void hashOfSum(long sum, int answer) {
        StringBuilder row = new StringBuilder();
        for (long left = sum; left > 0; left /= 31) {
            row.insert(0, (char) (left % 31));
        }
        Edge.asks("hash of the sum " + sum, Check.with(row.toString()), x -> x.hash(0), answer);
    }

    private static void isBlank() {
        Sentences.of(46, "Returns whether it is empty");
        Edge.asks("isBlank(0), empty", Edge::empty, x -> x.isBlank(0), true);
        Edge.asks("isBlank(0), at first", Tapebuffer::new, x -> x.isBlank(0), true);
        Sentences.of(46, "or has SIGNS 9 to 13, 28 to 32 alone");
        for (int sign = 0; sign < 256; sign++) {
            boolean blank = sign >= 9 && sign <= 13 || sign >= 28 && sign <= 32;
            String one = String.valueOf((char) sign);
            for (String row : new String[] {one, " " + one, one + "\t", "\r" + one + "\34"}) {
                Edge.asks("isBlank(0) with sign " + sign, Check.with(row), x -> x.isBlank(0), blank);
            }
        }
        Edge.asks("isBlank of all such signs", Check.with("\t\n\13\f\r\34\35\36\37 "), x -> x.isBlank(0), true);
        Tapebuffer last = new Tapebuffer();
        last.addSign(0, 32);
        for (int length = 1; length < 100; length *= 2) {
            last.addTape(0, 0);
        }
        Edge.asks("isBlank of 128 signs 32", last, x -> x.isBlank(0), true);
        last.addSign(0, 33);
        Edge.asks("isBlank, all but the last sign", last, x -> x.isBlank(0), false);
        Edge.tapes(46, "isBlank", (x, tape) -> x.isBlank(tape));
    }

    private static void trimmed() {
        Sentences.of(47, "Returns all but the SIGNS of 32 or less at both ends, as a text");
        for (int sign = 0; sign < 256; sign++) {
            String end = String.valueOf((char) sign);
            String kept = sign <= 32 ? "" : end;
            Edge.asks("trimmed with sign " + sign + " ahead", Check.with(end + "a"), x -> x.trimmed(0), kept + "a");
            Edge.asks("trimmed with sign " + sign + " behind", Check.with("a" + end), x -> x.trimmed(0), "a" + kept);
            Edge.asks("trimmed of sign " + sign + " alone", Check.with(end), x -> x.trimmed(0), kept);
            Edge.asks("trimmed with sign " + sign + " between", Check.with("a" + end + "b"), x -> x.trimmed(0),
                "a" + end + "b");
        }
        Edge.asks("trimmed of 2 and 3", Check.with(" \0! !\n\t "), x -> x.trimmed(0), "! !");
        Edge.asks("trimmed of none", Edge::empty, x -> x.trimmed(0), "");
        Edge.asks("trimmed of 200 signs 0", () -> Check.withLength(200), x -> x.trimmed(0), "");
        Edge.asks("trimmed of 200", Edge::full, x -> x.trimmed(0), Edge.FULL);
        Edge.tapes(47, "trimmed", (x, tape) -> x.trimmed(tape));
    }
}

/** Promises 15 to 23, sentence by sentence: the boundary cases of what is taken out, exchanged, turned, cut off. */
public final class OutEdgesTest {
    private static final int GREATEST = Edge.GREATEST;
    private static final String FIRST = Edge.FIRST;
    /** How many signs a furnished tape 0 has: its end. */
    private static final int END = FIRST.length();
    private static final String GREATER = "the PLACE behind it; a greater one than the length counts as the length";

    public static void main(String[] args) {
        takeOut();
        takeOutWrong();
        takeSign();
        exchange();
        exchangeRefused();
        exchangeWrong();
        exchangeTape();
        exchangeTapeForItself();
        exchangeTapeRefused();
        exchangeTapeWrong();
        setSign();
        setLength();
        turn();
        copy();
        trim();
        trimAtBothEnds();
        Sentences.allNamed(15, 23);
        Check.end();
    }

    private interface Part {
        int exchange(Tapebuffer x, int from, int to);
    }

    /** Each part of a furnished tape 0, also such as end behind its end. */
    private static void eachPart(String call, Part part, String coming) {
        for (int from = 0; from <= END; from++) {
            for (int to : new int[] {from, from + 1, END - 1, END, END + 1, END + 2, 199, 200, 201, GREATEST}) {
                if (to >= from) {
                    int first = from;
                    String due = FIRST.substring(0, from) + coming + FIRST.substring(Math.min(to, END));
                    Edge.act(call + " from " + from + " to " + to, Edge::furnished,
                        x -> part.exchange(x, first, to), due.length(), due);
                }
            }
        }
    }

    /** A part ends where it starts at the least. */
    private static void lessThanFrom(String call, Part part) {
        for (int from : new int[] {0, 1, 3, END}) {
            Edge.argument(call + " from " + from + " to", Edge::furnished, from, GREATEST,
                (x, to) -> part.exchange(x, from, to));
        }
    }

    private static void takeOut() {
        Sentences.of(15, "Takes a part out");
        eachPart("takeOut", (x, from, to) -> x.takeOut(0, from, to), "");
        Sentences.of(15, GREATER);
        Edge.act("takeOut to 8", Edge::furnished, x -> x.takeOut(0, 5, END + 1), 5, "abcbc");
        Edge.act("takeOut to the greatest", Edge::furnished, x -> x.takeOut(0, 5, GREATEST), 5, "abcbc");
        Edge.act("takeOut from the length to the greatest", Edge::furnished, x -> x.takeOut(0, END, GREATEST), END, FIRST);
        Edge.act("takeOut to 201 of 200", () -> Edge.furnished(200), x -> x.takeOut(0, 199, 201), 199,
            Edge.FULL.substring(0, 199));
        Edge.act("takeOut to the greatest, empty", Edge::empty, x -> x.takeOut(0, 0, GREATEST), 0, "");
        Sentences.of(15, "Returns how long it is then");
        Edge.act("takeOut of all 200", () -> Edge.furnished(200), x -> x.takeOut(0, 0, 200), 0, "");
        Edge.act("takeOut of none of 200", () -> Edge.furnished(200), x -> x.takeOut(0, 200, 200), 200, Edge.FULL);
        Edge.act("takeOut of none, empty", Edge::empty, x -> x.takeOut(0, 0, 0), 0, "");
    }

    private static void takeOutWrong() {
        Edge.tapes(15, "takeOut", (x, tape) -> x.takeOut(tape, 0, 0));
        Edge.tapes(15, "takeOut of all", (x, tape) -> x.takeOut(tape, 0, GREATEST));
        Sentences.of(15, "from is not 0 to its length");
        Edge.placesOrEnd("takeOut from", (x, from) -> x.takeOut(0, from, GREATEST));
        Sentences.of(15, "to is less than from");
        lessThanFrom("takeOut", (x, from, to) -> x.takeOut(0, from, to));
    }

    private static void takeSign() {
        Sentences.of(16, "Takes a SIGN out");
        Edge.act("takeSign of the first", Edge::furnished, x -> x.takeSign(0, 0), (int) 'a', "bcbcd7");
        Edge.act("takeSign of one between", Edge::furnished, x -> x.takeSign(0, 4), (int) 'c', "abcbd7");
        Edge.act("takeSign of the last", Edge::furnished, x -> x.takeSign(0, END - 1), (int) '7', "abcbcd");
        Edge.act("takeSign of the last of 200", () -> Edge.furnished(200), x -> x.takeSign(0, 199), (int) 'a',
            Edge.FULL.substring(0, 199));
        Edge.act("takeSign of the only one", () -> Edge.furnished(1), x -> x.takeSign(0, 0), (int) 'b', "");
        Sentences.of(16, "Returns that SIGN");
        for (int sign = 0; sign < 256; sign++) {
            Tapebuffer x = Check.with("ab");
            x.setSign(0, 1, sign);
            Edge.act("takeSign of sign " + sign, () -> x, y -> y.takeSign(0, 1), sign, "a");
        }
        Sentences.of(16, "there is no such TAPE");
        Edge.index("takeSign of tape, full,", Edge::full, 0, 3, (x, tape) -> x.takeSign(tape, 0));
        Sentences.of(16, "place is not one of its PLACES");
        Edge.places("takeSign", (x, place) -> x.takeSign(0, place));
    }

    private static void exchange() {
        Sentences.of(17, "Exchanges a part for a WORD");
        eachPart("exchange for 0", (x, from, to) -> x.exchange(0, from, to, 0), "a");
        eachPart("exchange for 9999", (x, from, to) -> x.exchange(0, from, to, 9999), "cbdaadd");
        Sentences.of(17, GREATER);
        Edge.act("exchange to 8", Edge::furnished, x -> x.exchange(0, 5, END + 1, 3), 6, "abcbcd");
        Edge.act("exchange to the greatest", Edge::furnished, x -> x.exchange(0, 0, GREATEST, 3), 1, "d");
        Edge.act("exchange from the length to the greatest", Edge::furnished, x -> x.exchange(0, END, GREATEST, 3), 8,
            FIRST + "d");
        Edge.act("exchange to 201 of 200", () -> Edge.furnished(200), x -> x.exchange(0, 199, 201, 3), 200,
            Edge.FULL.substring(0, 199) + "d");
        Edge.act("exchange to the greatest, empty", Edge::empty, x -> x.exchange(0, 0, GREATEST, 3), 1, "d");
        Sentences.of(17, "Returns how long it is then");
        Edge.act("exchange of all 200", () -> Edge.furnished(200), x -> x.exchange(0, 0, 200, 9999), 7, "cbdaadd");
        Edge.act("exchange of 7 for 7 of 200", () -> Edge.furnished(200), x -> x.exchange(0, 193, 200, 9999), 200,
            Edge.FULL.substring(0, 193) + "cbdaadd");
        Edge.act("exchange of none, empty", Edge::empty, x -> x.exchange(0, 0, 0, 9999), 7, "cbdaadd");
    }

    private static void exchangeRefused() {
        Sentences.of(17, "REFUSED");
        for (int going = 0; going < 7; going++) {
            int to = 10 + going;
            int length = 193 + going;
            String due = Edge.FULL.substring(0, 10) + "cbdaadd" + Edge.FULL.substring(to, length);
            Edge.act("exchange of " + going + " for 7 to 200", () -> Edge.furnished(length),
                x -> x.exchange(0, 10, to, 9999), 200, due);
            Edge.refused("exchange of " + going + " for 7 to 201", Edge.furnished(length + 1),
                x -> x.exchange(0, 10, to, 9999));
        }
        Edge.limit("exchange of none at 0 for 0", 1, x -> x.exchange(0, 0, 0, 0));
        Edge.limit("exchange of none at the end for 9999", 7, x -> x.exchange(0, x.length(0), GREATEST, 9999));
        Edge.refused("exchange of the last for 2", Edge.furnished(200), x -> x.exchange(0, 199, 300, 4));
        Edge.refused("exchange of the last for 2, to the greatest", Edge.furnished(200),
            x -> x.exchange(0, 199, GREATEST, 4));
    }

    private static void exchangeWrong() {
        Edge.tapes(17, "exchange", (x, tape) -> x.exchange(tape, 0, 0, 9999));
        Sentences.of(17, "from is not 0 to its length");
        Edge.placesOrEnd("exchange from", (x, from) -> x.exchange(0, from, GREATEST, 0));
        Sentences.of(17, "to is less than from");
        lessThanFrom("exchange", (x, from, to) -> x.exchange(0, from, to, 0));
        Tapebuffer full = Edge.full();
        Check.argument(full, "exchange from 200 to 199, full", () -> full.exchange(0, 200, 199, 0));
        Edge.words(17, "exchange", (x, word) -> x.exchange(0, 0, 0, word));
        Edge.words(17, "exchange of all", (x, word) -> x.exchange(0, 0, GREATEST, word));
    }

    private static void exchangeTape() {
        Sentences.of(18, "Exchanges a part for all of a TAPE");
        eachPart("exchangeTape for tape 1", (x, from, to) -> x.exchangeTape(0, from, to, 1), Edge.SECOND);
        eachPart("exchangeTape for an empty one", (x, from, to) -> x.exchangeTape(0, from, to, 2), "");
        Edge.act("exchangeTape of all for all of 200", Edge::furnished, x -> x.exchangeTape(0, 0, END, 3), 200, Edge.FULL);
        Sentences.of(18, GREATER);
        Edge.act("exchangeTape to 8", Edge::furnished, x -> x.exchangeTape(0, 5, END + 1, 1), 8, "abcbcxyz");
        Edge.act("exchangeTape to the greatest", Edge::furnished, x -> x.exchangeTape(0, 0, GREATEST, 1), 3, "xyz");
        Edge.act("exchangeTape from the length to the greatest", Edge::furnished,
            x -> x.exchangeTape(0, END, GREATEST, 1), 10, FIRST + "xyz");
        Edge.act("exchangeTape to 201 of 200", () -> Edge.furnished(200), x -> x.exchangeTape(0, 197, 201, 1), 200,
            Edge.FULL.substring(0, 197) + "xyz");
        Edge.act("exchangeTape to the greatest, empty", Edge::empty, x -> x.exchangeTape(0, 0, GREATEST, 1), 0, "");
        Sentences.of(18, "Returns how long it is then");
        Edge.act("exchangeTape of 200 for 200", () -> Edge.furnished(200), x -> x.exchangeTape(0, 0, 200, 3), 200,
            Edge.FULL);
        Edge.act("exchangeTape of 200 for none", () -> Edge.furnished(200), x -> x.exchangeTape(0, 0, 200, 2), 0, "");
    }

    private static void exchangeTapeForItself() {
        Sentences.of(18, "as it is ahead of that");
        eachPart("exchangeTape for itself", (x, from, to) -> x.exchangeTape(0, from, to, 0), FIRST);
        String row = Edge.FULL.substring(0, 101);
        Edge.act("exchangeTape of 2 for itself to 200", () -> Edge.furnished(101), x -> x.exchangeTape(0, 50, 52, 0),
            200, row.substring(0, 50) + row + row.substring(52));
        Edge.act("exchangeTape of all 200 for itself", () -> Edge.furnished(200), x -> x.exchangeTape(0, 0, GREATEST, 0),
            200, Edge.FULL);
        Edge.act("exchangeTape for itself, empty", Edge::empty, x -> x.exchangeTape(0, 0, 0, 0), 0, "");
    }

    private static void exchangeTapeRefused() {
        Sentences.of(18, "REFUSED");
        Edge.limit("exchangeTape of none for tape 1", 3, x -> x.exchangeTape(0, 1, 1, 1));
        Edge.limit("exchangeTape of one for tape 1", 2, x -> x.exchangeTape(0, 1, 2, 1));
        Edge.limit("exchangeTape of the last for tape 1", 2, x -> x.exchangeTape(0, x.length(0) - 1, GREATEST, 1));
        Edge.act("exchangeTape of the first 3 for tape 1, full", () -> Edge.furnished(200),
            x -> x.exchangeTape(0, 0, 3, 1), 200, Edge.SECOND + Edge.FULL.substring(3));
        Edge.refused("exchangeTape of 1 of 101 for itself", Edge.furnished(101), x -> x.exchangeTape(0, 50, 51, 0));
        Edge.refused("exchangeTape of 199 of 200 for itself", Edge.furnished(200), x -> x.exchangeTape(0, 0, 199, 0));
        Edge.refused("exchangeTape of 199 of 200 for 200", Edge.furnished(200), x -> x.exchangeTape(0, 1, GREATEST, 3));
    }

    private static void exchangeTapeWrong() {
        Edge.otherTapes(18, "exchangeTape", (x, tape) -> x.exchangeTape(tape, 0, 0, 2));
        Edge.otherTapes(18, "exchangeTape, other", (x, other) -> x.exchangeTape(0, 0, 0, other));
        Sentences.of(18, "from is not 0 to the length of tape");
        Edge.placesOrEnd("exchangeTape for an empty one from", (x, from) -> x.exchangeTape(0, from, GREATEST, 2));
        Edge.placesOrEnd("exchangeTape for a longer one from", (x, from) -> x.exchangeTape(0, from, GREATEST, 3));
        Tapebuffer shorter = Edge.furnished();
        Check.index(shorter, "exchangeTape(1, 4, 5, 0): 0 has that place, 1 has not",
            () -> shorter.exchangeTape(1, 4, 5, 0));
        Sentences.of(18, "to is less than from");
        lessThanFrom("exchangeTape", (x, from, to) -> x.exchangeTape(0, from, to, 1));
        Tapebuffer full = Edge.full();
        Check.argument(full, "exchangeTape from 200 to 199, full", () -> full.exchangeTape(0, 200, 199, 1));
    }

    private static void setSign() {
        Sentences.of(19, "Makes a SIGN another one");
        Edge.act("setSign of the first", Edge::furnished, x -> x.setSign(0, 0, 0), (int) 'a', "\0bcbcd7");
        Edge.act("setSign of the last", Edge::furnished, x -> x.setSign(0, END - 1, 255), (int) '7', "abcbcd\u00ff");
        Edge.act("setSign to the same", Edge::furnished, x -> x.setSign(0, 1, 'b'), (int) 'b', FIRST);
        Edge.act("setSign of the last of 200", () -> Edge.furnished(200), x -> x.setSign(0, 199, '!'), (int) 'a',
            Edge.FULL.substring(0, 199) + "!");
        Sentences.of(19, "Returns what it was");
        for (int sign = 0; sign < 256; sign++) {
            Tapebuffer x = Check.with("abc");
            x.setSign(0, 1, sign);
            Edge.act("setSign of sign " + sign, () -> x, y -> y.setSign(0, 1, '.'), sign, "a.c");
        }
        Sentences.of(19, "there is no such TAPE");
        Edge.index("setSign of tape", Edge::full, 0, 3, (x, tape) -> x.setSign(tape, 0, 0));
        Sentences.of(19, "place is not one of its PLACES");
        Edge.places("setSign", (x, place) -> x.setSign(0, place, 0));
        Edge.signs(19, "sign is not 0 to 255", "setSign", (x, sign) -> x.setSign(0, 0, sign));
    }

    private static void setLength() {
        Sentences.of(20, "what is behind that goes");
        for (int length = 0; length <= END; length++) {
            int then = length;
            Edge.act("setLength to " + length, Edge::furnished, x -> x.setLength(0, then), END, FIRST.substring(0, length));
        }
        Edge.act("setLength of 200 to 199", Edge::full, x -> x.setLength(0, 199), 200, Edge.FULL.substring(0, 199));
        Sentences.of(20, "or SIGNS 0 come behind it");
        Edge.act("setLength to 8", Edge::furnished, x -> x.setLength(0, END + 1), END, FIRST + "\0");
        Edge.act("setLength to 200", Edge::furnished, x -> x.setLength(0, 200), END, FIRST + "\0".repeat(193));
        Edge.act("setLength to 200, empty", Edge::empty, x -> x.setLength(0, 200), 0, "\0".repeat(200));
        Tapebuffer cut = Edge.full();
        cut.setLength(0, 0);
        Edge.act("setLength to 200, where signs were", () -> cut, x -> x.setLength(0, 200), 0, "\0".repeat(200));
        Sentences.of(20, "Returns its length before");
        Edge.act("setLength, of 200 to 200", Edge::full, x -> x.setLength(0, 200), 200, Edge.FULL);
        Edge.act("setLength, of 0 to 0", Edge::empty, x -> x.setLength(0, 0), 0, "");
        Edge.act("setLength, of 1 to 0", () -> Edge.furnished(1), x -> x.setLength(0, 0), 1, "");
        Edge.tapes(20, "setLength", (x, tape) -> x.setLength(tape, 200));
        Sentences.of(20, "length is not 0 to 200");
        Edge.argument("setLength to", 0, 200, (x, length) -> x.setLength(0, length));
    }

    private static void turn() {
        Sentences.of(21, "Turns a TAPE");
        Edge.act("turn of 7", Edge::furnished, x -> x.turn(0), (int) '7', "7dcbcba");
        Edge.act("turn of 1", () -> Edge.furnished(1), x -> x.turn(0), (int) 'b', "b");
        Edge.act("turn of 2", () -> Edge.furnished(2), x -> x.turn(0), (int) 'c', "cb");
        Edge.act("turn of 200", Edge::full, x -> x.turn(0), (int) 'a', new StringBuilder(Edge.FULL).reverse().toString());
        Sentences.of(21, "Returns its first SIGN then");
        for (int sign = 0; sign < 256; sign++) {
            Tapebuffer x = Check.with("ab.");
            x.setSign(0, 2, sign);
            Edge.act("turn to sign " + sign, () -> x, y -> y.turn(0), sign, (char) sign + "ba");
        }
        Sentences.of(21, "NONE if it is empty");
        Edge.act("turn of none", Edge::empty, x -> x.turn(0), Check.NONE, "");
        Edge.tapes(21, "turn", (x, tape) -> x.turn(tape));
    }

    private static void copy() {
        Sentences.of(22, "A TAPE becomes a COPY of another one");
        Edge.act("copy of a shorter one", Edge::furnished, x -> x.copy(0, 1), 3, Edge.SECOND);
        Edge.act("copy of an empty one", Edge::furnished, x -> x.copy(0, 2), 0, "");
        Edge.act("copy of a full one", Edge::furnished, x -> x.copy(0, 3), 200, Edge.FULL);
        Edge.act("copy of a full one, full", Edge::full, x -> x.copy(0, 3), 200, Edge.FULL);
        Edge.act("copy of a full one, empty", () -> Edge.furnished(0), x -> x.copy(0, 3), 200, Edge.FULL);
        Tapebuffer later = Edge.furnished();
        later.copy(0, 1);
        Edge.act("addSign to the copy, what was copied stays", () -> later, x -> x.addSign(0, '!'), 4, "xyz!");
        later.setSign(1, 0, '?');
        Check.due("setSign of what was copied, then text(0)", later.text(0), "xyz!");
        Sentences.of(22, "or stays, if it is the same");
        Edge.act("copy of itself", Edge::furnished, x -> x.copy(0, 0), END, FIRST);
        Edge.act("copy of itself, empty", Edge::empty, x -> x.copy(0, 0), 0, "");
        Edge.act("copy of itself, full", Edge::full, x -> x.copy(0, 0), 200, Edge.FULL);
        Sentences.of(22, "Returns how long it is then");
        Edge.act("copy of one", () -> {
            Tapebuffer x = Edge.furnished();
            x.setLength(1, 1);
            return x;
        }, x -> x.copy(0, 1), 1, "x");
        Edge.otherTapes(22, "copy", (x, tape) -> x.copy(tape, 1));
        Edge.otherTapes(22, "copy, other", (x, tape) -> x.copy(0, tape));
    }

    private static void trim() {
        Sentences.of(23, "A TAPE becomes what is left of it without SIGNS of 32 or less at both ends");
        for (int sign = 0; sign < 256; sign++) {
            String end = String.valueOf((char) sign);
            int going = sign <= 32 ? 1 : 0;
            String kept = sign <= 32 ? "" : end;
            Edge.act("trim with sign " + sign + " ahead", () -> Check.with(end + "a"), x -> x.trim(0), going, kept + "a");
            Edge.act("trim with sign " + sign + " behind", () -> Check.with("a" + end), x -> x.trim(0), going, "a" + kept);
            Edge.act("trim of sign " + sign + " alone", () -> Check.with(end), x -> x.trim(0), going, kept);
            Edge.act("trim with sign " + sign + " between", () -> Check.with("a" + end + "b"), x -> x.trim(0), 0,
                "a" + end + "b");
        }
    }

    private static void trimAtBothEnds() {
        Sentences.of(23, "Returns how many went");
        Edge.act("trim of 2 and 3", () -> Check.with(" \0! !\n\t "), x -> x.trim(0), 5, "! !");
        Edge.act("trim of none", Edge::furnished, x -> x.trim(0), 0, FIRST);
        Edge.act("trim of none, full", Edge::full, x -> x.trim(0), 0, Edge.FULL);
        Edge.act("trim, empty", Edge::empty, x -> x.trim(0), 0, "");
        Edge.act("trim of all 200", () -> Check.withLength(200), x -> x.trim(0), 200, "");
        Tapebuffer first = Check.withLength(200);
        first.setSign(0, 0, 33);
        Edge.act("trim of all but the first of 200", () -> first, x -> x.trim(0), 199, "!");
        Tapebuffer last = Check.withLength(200);
        last.setSign(0, 199, 33);
        Edge.act("trim of all but the last of 200", () -> last, x -> x.trim(0), 199, "!");
        Edge.tapes(23, "trim", (x, tape) -> x.trim(tape));
    }
}

import java.util.function.IntFunction;

/** Promises 15 to 23: what is taken out, exchanged, made another one, turned, cut off. */
public final class OutTest {
    private static final int GREATEST = Integer.MAX_VALUE;
    private static final int LEAST = Integer.MIN_VALUE;

    public static void main(String[] args) {
        takeOut();
        takeSign();
        exchange();
        exchangeRefused();
        exchangeTape();
        setSign();
        setLength();
        turn();
        copy();
        trim();
        Check.end();
    }

    /** Every number that is neither a place of a tape of 3 signs nor its end. */
    private static void noSuchFrom(Tapebuffer x, String call, IntFunction<?> act) {
        for (int from : new int[] {-1, 4, LEAST, GREATEST}) {
            Check.index(x, call + " from " + from, () -> act.apply(from));
        }
    }

    /** Every number that is not a place of a tape of 3 signs. */
    private static void noSuchPlace(Tapebuffer x, String call, IntFunction<?> act) {
        for (int place : new int[] {-1, 3, LEAST, GREATEST}) {
            Check.index(x, call + " at place " + place, () -> act.apply(place));
        }
    }

    private static void takeOut() {
        Tapebuffer wrong = Check.with("xyz");
        noSuchFrom(wrong, "takeOut", from -> wrong.takeOut(0, from, 3));
        noSuchFrom(wrong, "takeOut to the least", from -> wrong.takeOut(0, from, LEAST));
        Check.noSuchTape(wrong, "takeOut", tape -> wrong.takeOut(tape, 0, 0));
        Check.argument(wrong, "takeOut(0, 2, 1)", () -> wrong.takeOut(0, 2, 1));
        Check.argument(wrong, "takeOut(0, 3, 2)", () -> wrong.takeOut(0, 3, 2));
        Check.argument(wrong, "takeOut(0, 0, -1)", () -> wrong.takeOut(0, 0, -1));
        Check.argument(wrong, "takeOut(0, 0, least)", () -> wrong.takeOut(0, 0, LEAST));

        Tapebuffer x = Check.with("abcdefgh");
        Check.act("takeOut(0, 2, 2)", x, () -> x.takeOut(0, 2, 2), 8, "abcdefgh");
        Check.act("takeOut(0, 2, 4)", x, () -> x.takeOut(0, 2, 4), 6, "abefgh");
        Check.act("takeOut(0, 0, 1)", x, () -> x.takeOut(0, 0, 1), 5, "befgh");
        Check.act("takeOut(0, 4, 5)", x, () -> x.takeOut(0, 4, 5), 4, "befg");
        Check.act("takeOut(0, 4, 9)", x, () -> x.takeOut(0, 4, 9), 4, "befg");
        Check.act("takeOut(0, 3, 5)", x, () -> x.takeOut(0, 3, 5), 3, "bef");
        Check.act("takeOut(0, 1, greatest)", x, () -> x.takeOut(0, 1, GREATEST), 1, "b");
        Check.act("takeOut(0, 0, 1), all", x, () -> x.takeOut(0, 0, 1), 0, "");
        Check.act("takeOut(0, 0, 1), of none", x, () -> x.takeOut(0, 0, 1), 0, "");
        Tapebuffer full = Check.withLength(200);
        Check.due("takeOut of none, full", full.takeOut(0, 200, 200), 200);
        Check.due("takeOut, full", full.takeOut(0, 0, 200), 0);
        Check.due("takeOut is never refused", full.house(2), 0);
    }

    private static void takeSign() {
        Tapebuffer x = Check.with("xyz");
        noSuchPlace(x, "takeSign", place -> x.takeSign(0, place));
        Check.noSuchTape(x, "takeSign", tape -> x.takeSign(tape, 0));
        Check.index(x, "takeSign(1, 0), of an empty one", () -> x.takeSign(1, 0));
        Check.act("takeSign(0, 1)", x, () -> x.takeSign(0, 1), (int) 'y', "xz");
        Check.act("takeSign(0, 1), the last", x, () -> x.takeSign(0, 1), (int) 'z', "x");
        Check.act("takeSign(0, 0)", x, () -> x.takeSign(0, 0), (int) 'x', "");
        Tapebuffer high = Check.with("\u00ff\0");
        Check.act("takeSign of sign 255", high, () -> high.takeSign(0, 0), 255, "\0");
        Check.act("takeSign of sign 0", high, () -> high.takeSign(0, 0), 0, "");
    }

    private static void exchange() {
        Tapebuffer wrong = Check.with("xyz");
        noSuchFrom(wrong, "exchange", from -> wrong.exchange(0, from, 3, 1));
        noSuchFrom(wrong, "exchange of word -1", from -> wrong.exchange(0, from, LEAST, -1));
        Check.noSuchTape(wrong, "exchange", tape -> wrong.exchange(tape, 0, 0, 1));
        Check.noSuchWord(wrong, "exchange", word -> wrong.exchange(0, 0, 0, word));
        Check.argument(wrong, "exchange(0, 2, 1, 1)", () -> wrong.exchange(0, 2, 1, 1));
        Check.argument(wrong, "exchange(0, 0, least, 1)", () -> wrong.exchange(0, 0, LEAST, 1));

        Tapebuffer x = Check.with("12345");
        Check.act("exchange(0, 1, 3, 0)", x, () -> x.exchange(0, 1, 3, 0), 4, "1a45");
        Check.act("exchange(0, 0, 1, 27)", x, () -> x.exchange(0, 0, 1, 27), 6, "bcda45");
        Check.act("exchange(0, 2, 2, 6)", x, () -> x.exchange(0, 2, 2, 6), 8, "bcbcda45");
        Check.act("exchange(0, 7, 99, 1)", x, () -> x.exchange(0, 7, 99, 1), 8, "bcbcda4b");
        Check.act("exchange(0, 8, greatest, 3)", x, () -> x.exchange(0, 8, GREATEST, 3), 9, "bcbcda4bd");
        Check.act("exchange(0, 8, 8, 2)", x, () -> x.exchange(0, 8, 8, 2), 10, "bcbcda4bcd");
        Check.act("exchange(0, 0, greatest, 5)", x, () -> x.exchange(0, 0, GREATEST, 5), 2, "bb");
        Check.due("exchange(1, 0, 0, 5)", x.exchange(1, 0, 0, 5), 2);
    }

    private static void exchangeRefused() {
        Tapebuffer full = Check.withLength(200);
        Check.due("exchange 200 to 200", full.exchange(0, 3, 5, 6), 200);
        Check.refused(full, "exchange 200 to 201", () -> full.exchange(0, 3, 4, 6));
        Check.refused(full, "exchange 200 to 201, cut at the length", () -> full.exchange(0, 200, GREATEST, 0));
        Check.refused(full, "exchange 200 to 202, cut at the length", () -> full.exchange(0, 199, 250, 27));
        Check.argument(full, "exchange of word -1, full", () -> full.exchange(0, 0, 0, -1));
        Check.argument(full, "exchange to less than from, full", () -> full.exchange(0, 200, 199, 27));
        Check.due("exchange 200 to 199", full.exchange(0, 198, 200, 0), 199);
    }

    private static void exchangeTape() {
        Tapebuffer wrong = Check.with("xyz", "12");
        noSuchFrom(wrong, "exchangeTape", from -> wrong.exchangeTape(0, from, 3, 1));
        Check.noSuchTape(wrong, "exchangeTape", tape -> wrong.exchangeTape(tape, 0, 0, 1));
        Check.noSuchTape(wrong, "exchangeTape, other", tape -> wrong.exchangeTape(0, 0, LEAST, tape));
        Check.argument(wrong, "exchangeTape(0, 2, 1, 1)", () -> wrong.exchangeTape(0, 2, 1, 1));
        Check.argument(wrong, "exchangeTape(0, 0, least, 1)", () -> wrong.exchangeTape(0, 0, LEAST, 1));

        Tapebuffer x = Check.with("xyz", "12");
        Check.act("exchangeTape(0, 1, 2, 1)", x, () -> x.exchangeTape(0, 1, 2, 1), 4, "x12z");
        Check.due("exchangeTape(0, 1, 2, 1), then text(1)", x.text(1), "12");
        Check.act("exchangeTape(0, 1, 3, 0), itself", x, () -> x.exchangeTape(0, 1, 3, 0), 6, "xx12zz");
        Check.act("exchangeTape(0, 4, greatest, 1)", x, () -> x.exchangeTape(0, 4, GREATEST, 1), 6, "xx1212");
        Check.act("exchangeTape(0, 0, 4, 3), an empty one", x, () -> x.exchangeTape(0, 0, 4, 3), 2, "12");
        Check.act("exchangeTape(0, 0, 2, 0), all of itself", x, () -> x.exchangeTape(0, 0, 2, 0), 2, "12");

        Tapebuffer full = Check.withLength(101);
        Check.refused(full, "exchangeTape 101 to 201", () -> full.exchangeTape(0, 7, 8, 0));
        Check.refused(full, "exchangeTape 101 to 201, cut at the length", () -> full.exchangeTape(0, 100, 150, 0));
        Check.due("exchangeTape 101 to 200", full.exchangeTape(0, 7, 9, 0), 200);
        Check.argument(full, "exchangeTape to less than from, full", () -> full.exchangeTape(0, 9, 8, 0));
        Check.index(full, "exchangeTape of tape 4, full", () -> full.exchangeTape(0, 9, 8, 4));
    }

    private static void setSign() {
        Tapebuffer x = Check.with("xyz");
        noSuchPlace(x, "setSign", place -> x.setSign(0, place, 1));
        noSuchPlace(x, "setSign of sign 256", place -> x.setSign(0, place, 256));
        Check.noSuchTape(x, "setSign", tape -> x.setSign(tape, 0, 1));
        Check.noSuchSign(x, "setSign", sign -> x.setSign(0, 0, sign));
        Check.act("setSign(0, 0, 255)", x, () -> x.setSign(0, 0, 255), (int) 'x', "\u00ffyz");
        Check.act("setSign(0, 0, 65)", x, () -> x.setSign(0, 0, 65), 255, "Ayz");
        Check.act("setSign(0, 2, 0)", x, () -> x.setSign(0, 2, 0), (int) 'z', "Ay\0");
        Check.act("setSign(0, 1, 121), the same", x, () -> x.setSign(0, 1, 'y'), (int) 'y', "Ay\0");
    }

    private static void setLength() {
        Tapebuffer x = Check.with("abcd");
        for (int length : new int[] {-1, 201, LEAST, GREATEST}) {
            Check.argument(x, "setLength to " + length, () -> x.setLength(0, length));
        }
        Check.noSuchTape(x, "setLength", tape -> x.setLength(tape, 0));
        Check.index(x, "setLength(4, 201)", () -> x.setLength(4, 201));
        Check.act("setLength(0, 4)", x, () -> x.setLength(0, 4), 4, "abcd");
        Check.act("setLength(0, 2)", x, () -> x.setLength(0, 2), 4, "ab");
        Check.act("setLength(0, 4), what was cut off is gone", x, () -> x.setLength(0, 4), 2, "ab\0\0");
        Check.act("setLength(0, 0)", x, () -> x.setLength(0, 0), 4, "");
        Check.act("setLength(0, 1)", x, () -> x.setLength(0, 1), 0, "\0");
        Check.due("setLength(0, 200)", x.setLength(0, 200), 1);
        Check.due("setLength(0, 200), then text(0)", x.text(0), "\0".repeat(200));
        Check.due("setLength(0, 200), again", x.setLength(0, 200), 200);
    }

    private static void turn() {
        Tapebuffer x = Check.with("abcd");
        Check.noSuchTape(x, "turn", tape -> x.turn(tape));
        Check.act("turn(0)", x, () -> x.turn(0), (int) 'd', "dcba");
        x.takeSign(0, 0);
        Check.act("turn(0), of 3 signs", x, () -> x.turn(0), (int) 'a', "abc");
        x.setLength(0, 1);
        Check.act("turn(0), of one sign", x, () -> x.turn(0), (int) 'a', "a");
        x.setLength(0, 0);
        Check.act("turn(0), of none", x, () -> x.turn(0), Check.NONE, "");
        Tapebuffer high = Check.with("\0\u00ff");
        Check.act("turn(0) to sign 255 ahead", high, () -> high.turn(0), 255, "\u00ff\0");
    }

    private static void copy() {
        Tapebuffer x = Check.with("abc", "12345");
        Check.noSuchTape(x, "copy", tape -> x.copy(tape, 0));
        Check.noSuchTape(x, "copy, other", tape -> x.copy(0, tape));
        Check.act("copy(0, 0)", x, () -> x.copy(0, 0), 3, "abc");
        Check.act("copy(0, 1)", x, () -> x.copy(0, 1), 5, "12345");
        x.setSign(0, 0, 'x');
        Check.due("copy, then another sign in the copy", x.text(1), "12345");
        x.setSign(1, 1, 'y');
        Check.due("copy, then another sign in what was copied", x.text(0), "x2345");
        Check.act("copy(0, 2), an empty one", x, () -> x.copy(0, 2), 0, "");
        Tapebuffer full = Check.withLength(200);
        Check.due("copy(1, 0) of 200", full.copy(1, 0), 200);
    }

    private static void trim() {
        Tapebuffer x = Check.with("\0 ab c\t\r\n ");
        Check.noSuchTape(x, "trim", tape -> x.trim(tape));
        Check.act("trim(0)", x, () -> x.trim(0), 6, "ab c");
        Check.act("trim(0), again", x, () -> x.trim(0), 0, "ab c");
        Tapebuffer ends = Check.with(" !\u00a0", "!  ", "\u00a0\u0085", "\0\u001f ");
        Check.act("trim(0), ahead alone", ends, () -> ends.trim(0), 1, "!\u00a0");
        Check.due("trim(1), behind alone", ends.trim(1), 2);
        Check.due("trim(1), then text(1)", ends.text(1), "!");
        Check.due("trim(2), signs above 127", ends.trim(2), 0);
        Check.due("trim(3), all of it", ends.trim(3), 3);
        Check.due("trim(3), then text(3)", ends.text(3), "");
        Check.due("trim(3), of none", ends.trim(3), 0);
        Tapebuffer full = Check.withLength(200);
        Check.act("trim(0) of 200 signs 0", full, () -> full.trim(0), 200, "");
    }
}

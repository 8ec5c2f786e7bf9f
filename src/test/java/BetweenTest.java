import java.util.function.IntFunction;

/** Promises 11 to 14: what is put between the signs of a tape. */
public final class BetweenTest {
    public static void main(String[] args) {
        putWord();
        putNumber();
        putSign();
        putTape();
        Check.end();
    }

    /** Every number that is neither a place of a tape of 3 signs nor its end. */
    private static void noSuchPlace(Tapebuffer x, String call, IntFunction<?> act) {
        for (int place : new int[] {-1, 4, 200, Integer.MIN_VALUE, Integer.MAX_VALUE}) {
            Check.index(x, call + " at place " + place, () -> act.apply(place));
        }
    }

    private static void putWord() {
        Tapebuffer x = Check.with("xyz");
        noSuchPlace(x, "putWord", place -> x.putWord(0, place, 1));
        noSuchPlace(x, "putWord of word -1", place -> x.putWord(0, place, -1));
        Check.noSuchTape(x, "putWord", tape -> x.putWord(tape, 0, 1));
        Check.noSuchWord(x, "putWord", word -> x.putWord(0, 0, word));
        Check.act("putWord(0, 1, 27)", x, () -> x.putWord(0, 1, 27), 6, "xbcdyz");
        Check.act("putWord(0, 0, 0)", x, () -> x.putWord(0, 0, 0), 7, "axbcdyz");
        Check.act("putWord(0, 7, 6)", x, () -> x.putWord(0, 7, 6), 9, "axbcdyzbc");
        Check.due("putWord(1, 0, 9999)", x.putWord(1, 0, 9999), 7);
        Check.due("putWord(1, 0, 9999), then text(1)", x.text(1), "cbdaadd");

        Tapebuffer full = Check.withLength(193);
        Check.due("putWord to 200", full.putWord(0, 5, 9999), 200);
        Check.refused(full, "putWord to 201", () -> full.putWord(0, 5, 0));
        Check.index(full, "putWord at 201, full", () -> full.putWord(0, 201, 0));
        Check.argument(full, "putWord of word 10000, full", () -> full.putWord(0, 200, 10000));
    }

    private static void putNumber() {
        Tapebuffer x = Check.with("xyz");
        noSuchPlace(x, "putNumber", place -> x.putNumber(0, place, 1));
        Check.noSuchTape(x, "putNumber", tape -> x.putNumber(tape, 0, 1));
        Check.act("putNumber(0, 2, -70)", x, () -> x.putNumber(0, 2, -70), 6, "xy-70z");
        Check.act("putNumber(0, 0, 0)", x, () -> x.putNumber(0, 0, 0), 7, "0xy-70z");
        Check.act("putNumber(0, 7, 8)", x, () -> x.putNumber(0, 7, 8), 8, "0xy-70z8");
        Check.act("putNumber of the least", x, () -> x.putNumber(0, 1, -2147483648), 19, "0-2147483648xy-70z8");

        Tapebuffer full = Check.withLength(190);
        Check.refused(full, "putNumber to 201", () -> full.putNumber(0, 0, -2147483648));
        Check.due("putNumber to 200", full.putNumber(0, 0, 2147483647), 200);
    }

    private static void putSign() {
        Tapebuffer x = Check.with("xyz");
        noSuchPlace(x, "putSign", place -> x.putSign(0, place, 1));
        noSuchPlace(x, "putSign of sign 256", place -> x.putSign(0, place, 256));
        Check.noSuchTape(x, "putSign", tape -> x.putSign(tape, 0, 1));
        Check.noSuchSign(x, "putSign", sign -> x.putSign(0, 0, sign));
        Check.act("putSign(0, 1, 65)", x, () -> x.putSign(0, 1, 65), 4, "xAyz");
        Check.act("putSign(0, 0, 255)", x, () -> x.putSign(0, 0, 255), 5, "\u00ffxAyz");
        Check.act("putSign(0, 5, 0)", x, () -> x.putSign(0, 5, 0), 6, "\u00ffxAyz\0");

        Tapebuffer full = Check.withLength(199);
        Check.due("putSign to 200", full.putSign(0, 199, 7), 200);
        Check.refused(full, "putSign to 201", () -> full.putSign(0, 200, 7));
        Check.argument(full, "putSign of sign 256, full", () -> full.putSign(0, 200, 256));
        Check.index(full, "putSign at 201, full", () -> full.putSign(0, 201, 7));
    }

    private static void putTape() {
        Tapebuffer x = Check.with("xyz", "12345");
        noSuchPlace(x, "putTape", place -> x.putTape(0, place, 1));
        Check.noSuchTape(x, "putTape", tape -> x.putTape(tape, 0, 1));
        Check.noSuchTape(x, "putTape, other", tape -> x.putTape(0, 0, tape));
        Check.act("putTape(0, 1, 1)", x, () -> x.putTape(0, 1, 1), 8, "x12345yz");
        Check.due("putTape(0, 1, 1), then text(1)", x.text(1), "12345");
        Check.act("putTape(0, 8, 2)", x, () -> x.putTape(0, 8, 2), 8, "x12345yz");
        Check.act("putTape(0, 3, 0), itself", x, () -> x.putTape(0, 3, 0), 16, "x12x12345yz345yz");
        Check.act("putTape(0, 0, 1)", x, () -> x.putTape(0, 0, 1), 21, "12345x12x12345yz345yz");
        Check.act("putTape(0, 21, 1)", x, () -> x.putTape(0, 21, 1), 26, "12345x12x12345yz345yz12345");

        Tapebuffer full = Check.withLength(100);
        Check.due("putTape(0, 50, 0) to 200", full.putTape(0, 50, 0), 200);
        Check.refused(full, "putTape(0, 50, 0) to 400", () -> full.putTape(0, 50, 0));
        Check.index(full, "putTape(0, 201, 0), full", () -> full.putTape(0, 201, 0));
    }
}

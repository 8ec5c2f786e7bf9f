/** Promises 50 to 53: words, the house, soundness, the checksum. */
public final class HouseTest {
    public static void main(String[] args) {
        word();
        house();
        isSound();
        digestOfNew();
        digest();
        Check.end();
    }

    private static void word() {
        Tapebuffer x = Check.with("xyz");
        Check.due("word(0)", x.word(0), "a");
        Check.due("word(1)", x.word(1), "b");
        Check.due("word(3)", x.word(3), "d");
        Check.due("word(4)", x.word(4), "ba");
        Check.due("word(15)", x.word(15), "dd");
        Check.due("word(16)", x.word(16), "baa");
        Check.due("word(27)", x.word(27), "bcd");
        Check.due("word(4096)", x.word(4096), "baaaaaa");
        Check.due("word(4095)", x.word(4095), "dddddd");
        Check.due("word(9999)", x.word(9999), "cbdaadd");
        Check.due("word, then text(0)", x.text(0), "xyz");
        Check.noSuchWord(x, "word", word -> x.word(word));
        for (int start = 0; start < 10000; start += 500) {
            Tapebuffer y = new Tapebuffer();
            for (int number = start; number < start + 500; number++) {
                String letters = Integer.toString(number, 4)
                    .replace('0', 'a').replace('1', 'b').replace('2', 'c').replace('3', 'd');
                Check.due("word(" + number + ")", y.word(number), letters);
            }
        }
    }

    private static void house() {
        Tapebuffer x = Check.with("abc", "", "de");
        for (int what : new int[] {-1, 5, Integer.MIN_VALUE, Integer.MAX_VALUE}) {
            Check.argument(x, "house(" + what + ")", () -> x.house(what));
        }
        x.picture(0);
        x.addTape(1, 0);
        x.knock();
        x.knock();
        Check.due("house(0)", x.house(0), 8);
        Check.due("house(1)", x.house(1), 1);
        Check.due("house(2)", x.house(2), 0);
        Check.due("house(3)", x.house(3), 2);
        Check.due("house(4)", x.house(4), 3);
        for (int tape = 0; tape < 4; tape++) {
            x.setLength(tape, 200);
        }
        Check.due("house(0), all full", x.house(0), 800);
        Check.due("house(1), all full", x.house(1), 0);
        Check.due("addSign, full", x.addSign(3, 1), Check.REFUSED);
        Check.due("putTape, full", x.putTape(3, 9, 3), Check.REFUSED);
        Check.due("addOften of none, full", x.addOften(3, 1, 0), 200);
        Check.due("house(2), after two", x.house(2), 2);
        Check.argument(x, "addSign(3, 256), full", () -> x.addSign(3, 256));
        Check.due("house(2), an exception does not count", x.house(2), 2);
        for (int tape = 0; tape < 4; tape++) {
            x.setLength(tape, 0);
        }
        Check.due("house(0), all empty", x.house(0), 0);
        Check.due("house(1), all empty", x.house(1), 4);
        Check.due("house(4), all empty", x.house(4), 3);
    }

    private static void isSound() {
        Tapebuffer x = Check.with("abcab", "ab", "");
        x.setLength(3, 200);
        x.watch(3);
        x.picture(0);
        String before = x.text(0) + "|" + x.text(1) + "|" + x.text(2) + "|" + x.text(3) + "|" + x.seen();
        Check.due("isSound()", x.isSound(), true);
        Check.due("isSound(), then the rows", x.text(0) + "|" + x.text(1) + "|" + x.text(2) + "|" + x.text(3)
            + "|" + x.seen(), before);
        Check.due("isSound(), then house(2)", x.house(2), 0);
        Check.due("isSound(), then watched(0)", x.watched(0), 3);
        Check.due("isSound() of a new one", new Tapebuffer().isSound(), true);
    }

    private static void digestOfNew() {
        long d = 7708;
        int[] house = {0, 4, 0, 0, 0};
        for (int v : house) {
            d = d * 31 + v;
        }
        for (int tape = 0; tape < 4; tape++) {
            int[] ofTape = {0, 0, -1, -1, -1, -1, -1, -1, 0, 0, 0, 0, 0, 0, 0, 0, 1};
            for (int v : ofTape) {
                d = d * 31 + v;
            }
        }
        int[] rest = {0, 0, 0, -1, -1, 1};
        for (int v : rest) {
            d = d * 31 + v;
        }
        Check.due("digest() of a new one", new Tapebuffer().digest(), d);
    }

    private static void digest() {
        Tapebuffer x = Check.with("xbcdbc", "bc", " \t");
        x.setLength(3, 200);
        x.addSign(3, 1);
        x.picture(1);
        x.watch(2);
        x.knock();
        long d = 7708;
        int[] house = {210, 0, 1, 1, 2};
        int[][] tapes = {
            {6, "xbcdbc".hashCode(), 1, 4, 1, 4, 1, 1, 0, 0, 1, 1, -1, 1, -1, 1, 0},
            {2, "bc".hashCode(), 0, 0, 0, 0, -1, -1, -1, -1, 0, 0, -1, 1, -1, 1, 0},
            {2, " \t".hashCode(), -1, -1, -1, -1, -1, -1, -1, -1, -1, -1, 0, 0, -1, 1, 1},
            {200, 0, -1, -1, -1, -1, -1, -1, -1, -1, -1, -1, -1, -1, 0, 0, 0}};
        int[] rest = {2, 2, 2, 32, 9, 1};
        for (int v : house) {
            d = d * 31 + v;
        }
        for (int[] ofTape : tapes) {
            for (int v : ofTape) {
                d = d * 31 + v;
            }
        }
        for (int v : rest) {
            d = d * 31 + v;
        }
        Check.due("digest()", x.digest(), d);
        Check.due("digest(), again", x.digest(), d);
    }
}

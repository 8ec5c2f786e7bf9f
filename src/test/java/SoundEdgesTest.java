import java.util.ArrayList;
import java.util.List;

/**
 * Promise 52, part by part: at the boundaries each part is so by the object's other answers, and isSound() says so.
 * That isSound() notices what is not so is tested in BrokenSoundTest.
 */
public final class SoundEdgesTest {
    private static final int[] LENGTHS = {0, 1, 2, 3, 4, 5, 99, 100, 101, 195, 196, 197, 198, 199, 200};

    public static void main(String[] args) {
        turnedTwice();
        cutAndJoined();
        secondHalf();
        order();
        numberBehindCopy();
        watch();
        Sentences.allNamed(52, 52);
        Check.end();
    }

    private static void isSound(String state, Tapebuffer x) {
        Edge.asks("isSound(), " + state, x, y -> y.isSound(), true);
    }

    /** Rows of each length: all signs another one, all the same, the same by twos, numbers and blanks. */
    private static List<String> rows() {
        List<String> rows = new ArrayList<>();
        for (int length : LENGTHS) {
            StringBuilder counted = new StringBuilder();
            for (int i = 0; i < length; i++) {
                counted.append((char) (255 - i));
            }
            rows.add(counted.toString());
            rows.add("a".repeat(length));
            rows.add("\0\u00ff".repeat(100).substring(0, length));
            rows.add("-5+ ".repeat(50).substring(0, length));
            rows.add("0".repeat(length));
        }
        return rows;
    }

    private static void turnedTwice() {
        Sentences.of(52, "Returns whether all of this is so: each TAPE turned twice is as it was");
        for (String row : rows()) {
            for (int tape = 0; tape < 4; tape++) {
                Tapebuffer x = new Tapebuffer();
                put(x, tape, row);
                isSound("a row of " + row.length() + " on tape " + tape, x);
                x.turn(tape);
                x.turn(tape);
                Check.due("turn twice, then text(" + tape + ")", x.text(tape), row);
                isSound("turned twice", x);
            }
        }
    }

    private static void put(Tapebuffer x, int tape, String row) {
        for (int place = 0; place < row.length(); place++) {
            x.addSign(tape, row.charAt(place));
        }
    }

    private static void cutAndJoined() {
        Sentences.of(52, "each TAPE, cut in the middle (its length / 2, rounded down) and put together again, is as it was");
        for (String row : rows()) {
            Tapebuffer x = Check.with(row);
            x.copy(1, 0);
            x.takeOut(1, 0, row.length() / 2);
            x.copy(2, 0);
            x.setLength(2, row.length() / 2);
            x.addTape(2, 1);
            Check.due("cut and put together again", x.text(2), row);
            isSound("cut and put together again, " + row.length(), x);
        }
    }

    private static void secondHalf() {
        Sentences.of(52, "the first PLACE of the second half in it, and the last one, have that half");
        for (String row : rows()) {
            Tapebuffer x = Check.with(row);
            x.copy(1, 0);
            int half = x.takeOut(1, 0, row.length() / 2);
            int first = x.findTape(0, 1);
            int last = x.findTapeLast(0, 1);
            Check.due("the first place, of " + row.length(), x.part(0, first, first + half), x.text(1));
            Check.due("the last place, of " + row.length(), x.part(0, last, last + half), x.text(1));
            isSound("with its second half, " + row.length(), x);
        }
    }

    private static void order() {
        Sentences.of(52, "of any two TAPES just one of LESS, greater, alike is so,"
            + " and, asked the other way round, greater, LESS, alike");
        String[] rows = {"", "\0", "a", "ab", "b", "\u007f", "\u0080", "\u00ff", "\0".repeat(199), "\0".repeat(200)};
        for (String one : rows) {
            for (String other : rows) {
                Tapebuffer x = Check.with(one);
                put(x, 3, other);
                int order = x.compare(0, 3);
                Check.due("just one of LESS, greater, alike", x.isLike(0, 3), order == 0);
                Check.due("the other way round", x.compare(3, 0), -order);
                isSound("two tapes", x);
            }
        }
    }

    private static void numberBehindCopy() {
        Sentences.of(52,
            "a number (its length * 1000 - 500) put behind a COPY (however long that gets) is read there again");
        for (String row : rows()) {
            Tapebuffer x = Check.with(row);
            x.copy(1, 0);
            int then = x.addNumber(1, row.length() * 1000 - 500);
            if (then != Check.REFUSED) {
                Check.due("the number behind " + row.length(), x.number(1, row.length(), then, 10),
                    Integer.toString(row.length() * 1000 - 500));
            }
            isSound("a number behind " + row.length(), x);
        }
        for (int length = 194; length <= 200; length++) {
            Tapebuffer x = Edge.full();
            for (int tape = 0; tape < 4; tape++) {
                x.setLength(tape, length);
            }
            isSound("a copy that gets longer than 200: " + length, x);
            Check.due("isSound() never tells REFUSED", x.house(2), 1);
        }
    }

    private static void watch() {
        Sentences.of(52, "the WATCH is like its TAPE");
        isSound("at first", new Tapebuffer());
        for (int tape = 0; tape < 4; tape++) {
            Tapebuffer[] states = {Edge.furnished(), Edge.full(), Edge.empty()};
            for (Tapebuffer x : states) {
                x.watch(tape);
                watchIsLike(x, tape);
                x.setLength(tape, 1);
                watchIsLike(x, tape);
                x.setSign(tape, 0, 255);
                watchIsLike(x, tape);
                x.back(tape);
                watchIsLike(x, tape);
            }
        }
    }

    private static void watchIsLike(Tapebuffer x, int tape) {
        int length = x.length(tape);
        Check.due("watched(0)", x.watched(0), tape);
        Check.due("watched(1)", x.watched(1), length);
        Check.due("watched(2)", x.watched(2), length == 0 ? Check.NONE : x.sign(tape, 0));
        Check.due("watched(3)", x.watched(3), length == 0 ? Check.NONE : x.sign(tape, length - 1));
        isSound("the watch of tape " + tape, x);
    }
}

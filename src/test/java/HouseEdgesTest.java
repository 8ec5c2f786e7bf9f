import java.math.BigInteger;
import java.util.function.Function;

/** Promises 50, 51, 53, sentence by sentence: the boundary cases of words, of the house, of the checksum. */
public final class HouseEdgesTest {
    /** What the document's checksum is made of, by hand, before any call. */
    private static final int[] OF_NEW_OBJECT = {
        0, 4, 0, 0, 0,
        0, 0, -1, -1, -1, -1, -1, -1, 0, 0, 0, 0, 0, 0, 0, 0, 1,
        0, 0, -1, -1, -1, -1, -1, -1, 0, 0, 0, 0, 0, 0, 0, 0, 1,
        0, 0, -1, -1, -1, -1, -1, -1, 0, 0, 0, 0, 0, 0, 0, 0, 1,
        0, 0, -1, -1, -1, -1, -1, -1, 0, 0, 0, 0, 0, 0, 0, 0, 1,
        0, 0, 0, -1, -1, 1};

    public static void main(String[] args) {
        word();
        signsOnAllTapes();
        emptyTapes();
        refusals();
        refusalsAtLimits();
        knocks();
        lengthOfPicture();
        digest();
        digestAfterEachChange();
        digestWrapsAround();
        Sentences.allNamed(50, 51);
        Sentences.allNamed(53, 53);
        Check.end();
    }

    private static void word() {
        Sentences.of(50, "Returns the WORD");
        int[] numbers = {0, 1, 3, 4, 15, 16, 63, 64, 255, 256, 1023, 1024, 4095, 4096, 9998, 9999};
        String[] words = {"a", "b", "d", "ba", "dd", "baa", "ddd", "baaa", "dddd", "baaaa", "ddddd", "baaaaa",
            "dddddd", "baaaaaa", "cbdaadc", "cbdaadd"};
        for (int i = 0; i < numbers.length; i++) {
            int number = numbers[i];
            Edge.asks("word(" + number + ")", Edge::furnished, x -> x.word(number), words[i]);
            Edge.asks("word(" + number + "), full", Edge::full, x -> x.word(number), words[i]);
        }
        Edge.words(50, "word", (x, word) -> x.word(word));
    }

    private static void signsOnAllTapes() {
        Sentences.of(51, "0 how many SIGNS are on all TAPES");
        Edge.asks("house(0), at first", Tapebuffer::new, x -> x.house(0), 0);
        Edge.asks("house(0)", Edge::furnished, x -> x.house(0), Edge.FIRST.length() + 3 + 200);
        Edge.asks("house(0), empty", Edge::empty, x -> x.house(0), 0);
        Edge.asks("house(0), full", Edge::full, x -> x.house(0), 800);
        for (int tape = 0; tape < 4; tape++) {
            Tapebuffer x = Edge.full();
            x.takeSign(tape, 0);
            Edge.asks("house(0), one taken from tape " + tape, x, y -> y.house(0), 799);
            Tapebuffer y = Edge.empty();
            y.addSign(tape, 0);
            Edge.asks("house(0), one put on tape " + tape, y, z -> z.house(0), 1);
        }
        Sentences.of(51, "what is not 0 to 4");
        Edge.argument("house", 0, 4, (x, what) -> x.house(what));
        Edge.argument("house, empty,", Edge::empty, 0, 4, (x, what) -> x.house(what));
    }

    private static void emptyTapes() {
        Sentences.of(51, "1 how many TAPES are empty");
        Edge.asks("house(1), at first", Tapebuffer::new, x -> x.house(1), 4);
        Edge.asks("house(1)", Edge::furnished, x -> x.house(1), 1);
        Edge.asks("house(1), empty", Edge::empty, x -> x.house(1), 4);
        Edge.asks("house(1), full", Edge::full, x -> x.house(1), 0);
        for (int tape = 0; tape < 4; tape++) {
            Tapebuffer x = Edge.full();
            x.setLength(tape, 0);
            Edge.asks("house(1), tape " + tape + " alone empty", x, y -> y.house(1), 1);
            x.addSign(tape, 0);
            Edge.asks("house(1), tape " + tape + " with one sign", x, y -> y.house(1), 0);
        }
    }

    private static void refusals() {
        Sentences.of(51, "2 how often REFUSED was told");
        Edge.asks("house(2), at first", Tapebuffer::new, x -> x.house(2), 0);
        counts("addWord", x -> x.addWord(0, 0));
        counts("addNumber", x -> x.addNumber(0, 0));
        counts("addLong", x -> x.addLong(0, 0, 0));
        counts("addSign", x -> x.addSign(0, 0));
        counts("addTruth", x -> x.addTruth(0, true));
        counts("addRow", x -> x.addRow(0, 0, 0, 0));
        counts("addTape", x -> x.addTape(0, 0));
        counts("addOften", x -> x.addOften(0, 0, 1));
        counts("addThree", x -> x.addThree(0, 0, 0, 0));
        counts("putWord", x -> x.putWord(0, 0, 0));
        counts("putNumber", x -> x.putNumber(0, 0, 0));
        counts("putSign", x -> x.putSign(0, 0, 0));
        counts("putTape", x -> x.putTape(0, 0, 0));
        counts("exchange", x -> x.exchange(0, 0, 0, 0));
        counts("exchangeTape", x -> x.exchangeTape(0, 0, 0, 0));
    }

    /** Told 100 times, counted 100 times. */
    private static void counts(String call, Function<Tapebuffer, Object> act) {
        Tapebuffer x = Check.withLength(200);
        for (int i = 1; i <= 100; i++) {
            Check.due(call + ", full", act.apply(x), Check.REFUSED);
            Check.due(call + ", full, then house(2)", x.house(2), i);
        }
    }

    /** On whichever tape it was told; what fits, and what throws, is not counted. */
    private static void refusalsAtLimits() {
        Tapebuffer x = Edge.full();
        for (int tape = 0; tape < 4; tape++) {
            x.addSign(tape, 0);
            Check.due("house(2), refused on tape " + tape, x.house(2), 2 + tape);
        }
        x.addOften(0, 9999, 0);
        x.exchange(0, 0, 1, 0);
        x.setLength(1, 199);
        x.addSign(1, 0);
        Check.due("house(2), nothing refused since", x.house(2), 5);
        Check.argument(x, "addSign(0, 256)", () -> x.addSign(0, 256));
        Check.index(x, "addSign(4, 0)", () -> x.addSign(4, 0));
        Check.due("house(2), after exceptions", x.house(2), 5);
        Check.due("house(2) of another object", new Tapebuffer().house(2), 0);
    }

    private static void knocks() {
        Sentences.of(51, "3 how often one knocked");
        Edge.asks("house(3), at first", Tapebuffer::new, x -> x.house(3), 0);
        Edge.asks("house(3)", Edge::furnished, x -> x.house(3), 2);
        Tapebuffer x = new Tapebuffer();
        for (int i = 1; i <= 200; i++) {
            x.knock();
            Check.due("house(3), after so many knocks", x.house(3), i);
        }
    }

    private static void lengthOfPicture() {
        Sentences.of(51, "4 how long the PICTURE is");
        Edge.asks("house(4), at first", Tapebuffer::new, x -> x.house(4), 0);
        Edge.asks("house(4)", Edge::furnished, x -> x.house(4), 3);
        Edge.asks("house(4), tapes empty", Edge::empty, x -> x.house(4), 3);
        Tapebuffer x = Edge.full();
        x.picture(0);
        Edge.asks("house(4), of 200", x, y -> y.house(4), 200);
        x.setLength(0, 0);
        Edge.asks("house(4), its tape emptied", x, y -> y.house(4), 200);
        x.picture(0);
        Edge.asks("house(4), of none", x, y -> y.house(4), 0);
        Sentences.of(51, "Returns that");
        Tapebuffer all = Edge.furnished();
        int[] answers = {Edge.FIRST.length() + 203, 1, 1, 2, 3};
        for (int what = 0; what <= 4; what++) {
            Check.due("house(" + what + ")", all.house(what), answers[what]);
        }
    }

    /** What the document says, by the object's own answers. */
    private static long digestOf(Tapebuffer x) {
        long d = 7708;
        for (int what = 0; what <= 4; what++) {
            d = d * 31 + x.house(what);
        }
        for (int tape = 0; tape <= 3; tape++) {
            d = d * 31 + x.length(tape);
            d = d * 31 + x.hash(tape);
            for (int word : new int[] {1, 6, 27}) {
                d = d * 31 + x.find(tape, word);
                d = d * 31 + x.findLast(tape, word);
            }
            for (int other = 0; other <= 3; other++) {
                d = d * 31 + x.findTape(tape, other);
                d = d * 31 + x.compare(tape, other);
            }
            d = d * 31 + (x.isBlank(tape) ? 1 : 0);
        }
        d = d * 31 + x.seen().length();
        for (int what = 0; what <= 3; what++) {
            d = d * 31 + x.watched(what);
        }
        return d * 31 + (x.isSound() ? 1 : 0);
    }

    private static void digest() {
        Sentences.of(53, "Computes a checksum. A number d starts with 7708; then d becomes d * 31 + v");
        for (int state = 0; state < 4; state++) {
            Tapebuffer x = state == 0 ? new Tapebuffer() : state == 1 ? Edge.furnished()
                : state == 2 ? Edge.full() : Edge.empty();
            Edge.asks("digest(), state " + state, x, y -> y.digest(), digestOf(x));
            Edge.asks("digest(), state " + state + ", again", x, y -> y.digest(), digestOf(x));
        }
    }

    /** Each v is in it: a change that one v alone tells changes the checksum as the document says. */
    private static void digestAfterEachChange() {
        String order = "for each v in this order: house() of 0 to 4; TAPE by TAPE length(), hash(),"
            + " WORD by WORD (1, 6, 27) find(), then findLast(), TAPE by TAPE findTape() of it, then compare() with it,"
            + " 1 if isBlank(), otherwise 0; the length of seen(); watched() of 0 to 3; 1 if isSound(), otherwise 0";
        Sentences.of(53, order);
        digestChanges("knock", x -> x.knock());
        digestChanges("a refused act", x -> x.addSign(3, 0));
        digestChanges("picture", x -> x.picture(0));
        digestChanges("watch", x -> x.watch(3));
        digestChanges("another first sign of the watch", x -> x.setSign(1, 0, '!'));
        digestChanges("another last sign of the watch", x -> x.setSign(1, 2, '!'));
        for (int tape = 0; tape < 4; tape++) {
            int changed = tape;
            digestChanges("one sign on tape " + tape, x -> x.setLength(changed, 1));
            digestChanges("word 1 on tape " + tape, x -> x.setLength(changed, 9) + x.addWord(changed, 1));
            digestChanges("word 6 on tape " + tape, x -> x.setLength(changed, 9) + x.addWord(changed, 6));
            digestChanges("word 27 on tape " + tape, x -> x.setLength(changed, 9) + x.addWord(changed, 27));
            digestChanges("a blank on tape " + tape, x -> x.setLength(changed, 0) + x.addSign(changed, 32));
            digestChanges("tape " + tape + " like tape 0", x -> x.setLength(0, 5) + x.copy(changed, 0));
            digestChanges("tape " + tape + " like tape 3", x -> x.setLength(3, 6) + x.copy(changed, 3));
        }
        Sentences.of(53, "Returns d");
        Check.due("digest()", Edge.furnished().digest(), digestOf(Edge.furnished()));
    }

    private static void digestChanges(String change, Function<Tapebuffer, Object> act) {
        Tapebuffer x = Edge.furnished();
        long before = x.digest();
        act.apply(x);
        Check.due("digest() after " + change + " is another one", x.digest() != before, true);
        Check.due("digest() after " + change, x.digest(), digestOf(x));
    }

    private static void digestWrapsAround() {
        Sentences.of(53, "which wraps around as a 64-bit integer");
        BigInteger d = BigInteger.valueOf(7708);
        for (int v : OF_NEW_OBJECT) {
            d = d.multiply(BigInteger.valueOf(31)).add(BigInteger.valueOf(v));
        }
        Check.due("the sum that does not wrap has more than 64 binary digits", d.bitLength() > 64, true);
        Check.due("digest(), at first", new Tapebuffer().digest(), d.longValue());
    }
}

import java.util.function.Function;

/** Promises 24 to 27 and 48, 49, sentence by sentence: the boundary cases of the picture, the watch, the knocks. */
public final class PictureEdgesTest {
    private static final int NONE = Check.NONE;

    public static void main(String[] args) {
        picture();
        pictureStays();
        watch();
        back();
        knock();
        seen();
        watchedTape();
        watchedSigns();
        watchedAtEachTime();
        Sentences.allNamed(24, 27);
        Sentences.allNamed(48, 49);
        Check.end();
    }

    /** An act that changes the picture alone: its answer, and what is seen then. */
    private static void pictures(String call, Tapebuffer x, int tape, String row) {
        String before = butPicture(x);
        Check.due(call, x.picture(tape), row.length());
        Check.due(call + ", then seen()", x.seen(), row);
        Check.due(call + ", then house(4)", x.house(4), row.length());
        Check.due(call + ", then all else", butPicture(x), before);
    }

    private static String butPicture(Tapebuffer x) {
        return Check.tapes(x) + x.watched(0) + "|" + x.house(2) + "|" + x.house(3);
    }

    private static String butWatch(Tapebuffer x) {
        return Check.tapes(x) + x.seen() + "|" + x.house(2) + "|" + x.house(3);
    }

    private static String butKnocks(Tapebuffer x) {
        return Check.tapes(x) + x.seen() + "|" + x.watched(0) + "|" + x.house(2);
    }

    private static void picture() {
        Sentences.of(24, "The PICTURE is that of a TAPE as it is now");
        pictures("picture(0)", Edge.furnished(), 0, Edge.FIRST);
        pictures("picture(1)", Edge.furnished(), 1, Edge.SECOND);
        Sentences.of(24, "Returns how long it is");
        pictures("picture(2), of none", Edge.furnished(), 2, "");
        pictures("picture(0), of one", Edge.furnished(1), 0, "b");
        pictures("picture(0), of 199", Edge.furnished(199), 0, Edge.FULL.substring(0, 199));
        pictures("picture(3), of 200", Edge.furnished(), 3, Edge.FULL);
        Edge.tapes(24, "picture", (x, tape) -> x.picture(tape));
    }

    /** What each act on a tape does afterwards is not seen in the picture. */
    private static void pictureStays() {
        Sentences.of(24, "as it is now");
        stays("addSign", x -> x.addSign(0, 1));
        stays("putSign", x -> x.putSign(0, 0, 1));
        stays("takeSign", x -> x.takeSign(0, 0));
        stays("takeOut", x -> x.takeOut(0, 0, 200));
        stays("exchange", x -> x.exchange(0, 0, 1, 3));
        stays("exchangeTape", x -> x.exchangeTape(0, 0, 200, 1));
        stays("setSign", x -> x.setSign(0, 0, 1));
        stays("setLength to 0", x -> x.setLength(0, 0));
        stays("setLength to 200", x -> x.setLength(0, 200));
        stays("turn", x -> x.turn(0));
        stays("copy", x -> x.copy(0, 1));
        stays("back, then another sign", x -> x.back(0) + x.setSign(0, 0, 1));
        stays("watch", x -> x.watch(0));
        stays("trim", x -> x.addSign(0, 32) + x.trim(0));
    }

    private static void stays(String call, Function<Tapebuffer, Object> act) {
        Tapebuffer x = Edge.furnished();
        x.picture(0);
        act.apply(x);
        Check.due("picture(0), then " + call + ", then seen()", x.seen(), Edge.FIRST);
        Check.due("picture(0), then " + call + ", then house(4)", x.house(4), Edge.FIRST.length());
    }

    private static void watch() {
        Sentences.of(25, "The WATCH is of a TAPE from now on");
        for (int tape = 0; tape < 4; tape++) {
            Tapebuffer x = Edge.furnished();
            String before = butWatch(x);
            Check.due("watch(" + tape + ")", x.watch(tape), Edge.WATCHED);
            Check.due("watch(" + tape + "), then watched(0)", x.watched(0), tape);
            Check.due("watch(" + tape + "), then watched(1)", x.watched(1), x.length(tape));
            Check.due("watch(" + tape + "), then all else", butWatch(x), before);
        }
        Sentences.of(25, "Returns of which one it was before");
        Tapebuffer x = new Tapebuffer();
        Check.due("watch(3), the first", x.watch(3), 0);
        Check.due("watch(3), again", x.watch(3), 3);
        Check.due("watch(0)", x.watch(0), 3);
        Check.due("watch(2)", x.watch(2), 0);
        Check.due("watch(1)", x.watch(1), 2);
        Edge.tapes(25, "watch", (y, tape) -> y.watch(tape));
    }

    private static void back() {
        Sentences.of(26, "A TAPE becomes the row of the PICTURE");
        Edge.act("back(0)", Edge::furnished, x -> x.back(0), 3, Edge.PICTURE);
        Edge.act("back(0), full", Edge::full, x -> x.back(0), 3, Edge.PICTURE);
        Edge.act("back(0), empty", Edge::empty, x -> x.back(0), 3, Edge.PICTURE);
        Tapebuffer later = Edge.furnished();
        later.back(0);
        later.setSign(0, 0, '!');
        Check.due("back(0), then setSign, then seen()", later.seen(), Edge.PICTURE);
        Edge.act("back(0), again", () -> later, x -> x.back(0), 3, Edge.PICTURE);
        Sentences.of(26, "Returns how long it is then");
        Edge.act("back(0), to none", () -> Check.with("abc"), x -> x.back(0), 0, "");
        Edge.act("back(0), to 200", PictureEdgesTest::withFullPicture, x -> x.back(0), 200, Edge.FULL);
        Edge.act("back(0), to 200, full", () -> {
            Tapebuffer x = withFullPicture();
            x.setLength(0, 200);
            return x;
        }, x -> x.back(0), 200, Edge.FULL);
        Edge.tapes(26, "back", (x, tape) -> x.back(tape));
    }

    private static Tapebuffer withFullPicture() {
        Tapebuffer x = Edge.furnished();
        x.picture(3);
        return x;
    }

    private static void knock() {
        Sentences.of(27, "Knocks at the tape room");
        Tapebuffer x = Edge.furnished();
        String before = butKnocks(x);
        Check.due("knock()", x.knock(), 3);
        Check.due("knock(), then house(3)", x.house(3), 3);
        Check.due("knock(), then all else", butKnocks(x), before);
        Sentences.of(27, "Returns how often one knocked, with this");
        Tapebuffer often = new Tapebuffer();
        for (int i = 1; i <= 512; i++) {
            Check.due("knock(), for the time " + i, often.knock(), i);
        }
        Check.due("knock() of another object", new Tapebuffer().knock(), 1);
    }

    private static void seen() {
        Sentences.of(48, "Returns the PICTURE as a text");
        Edge.asks("seen(), at first", Tapebuffer::new, x -> x.seen(), "");
        Edge.asks("seen()", Edge::furnished, x -> x.seen(), Edge.PICTURE);
        Edge.asks("seen(), all tapes empty", Edge::empty, x -> x.seen(), Edge.PICTURE);
        Edge.asks("seen(), of 200", PictureEdgesTest::withFullPicture, x -> x.seen(), Edge.FULL);
        for (int sign = 0; sign < 256; sign++) {
            Tapebuffer x = Check.with("a" + (char) sign);
            x.picture(0);
            Edge.asks("seen(), with sign " + sign, x, y -> y.seen(), "a" + (char) sign);
        }
        Tapebuffer emptied = Edge.furnished();
        emptied.picture(2);
        Edge.asks("seen(), of none", emptied, x -> x.seen(), "");
    }

    private static void watchedTape() {
        Sentences.of(49, "0 of which TAPE it is, 1 how long that is");
        Edge.asks("watched(0), at first", Tapebuffer::new, x -> x.watched(0), 0);
        Edge.asks("watched(1), at first", Tapebuffer::new, x -> x.watched(1), 0);
        int[] lengths = {Edge.FIRST.length(), 3, 0, 200};
        for (int tape = 0; tape < 4; tape++) {
            Tapebuffer x = Edge.furnished();
            x.watch(tape);
            Edge.asks("watched(0), of tape " + tape, x, y -> y.watched(0), tape);
            Edge.asks("watched(1), of tape " + tape, x, y -> y.watched(1), lengths[tape]);
        }
        Sentences.of(49, "what is not 0 to 3");
        Edge.argument("watched", 0, 3, (x, what) -> x.watched(what));
        Edge.argument("watched, empty,", Edge::empty, 0, 3, (x, what) -> x.watched(what));
    }

    private static void watchedSigns() {
        Sentences.of(49, "2 its first SIGN, 3 its last one");
        Edge.asks("watched(2)", Edge::furnished, x -> x.watched(2), (int) 'x');
        Edge.asks("watched(3)", Edge::furnished, x -> x.watched(3), (int) 'z');
        Edge.asks("watched(2), of 200", Edge::full, x -> x.watched(2), (int) 'b');
        Edge.asks("watched(3), of 200", Edge::full, x -> x.watched(3), (int) 'a');
        for (int sign = 0; sign < 256; sign++) {
            Tapebuffer x = Check.with(String.valueOf((char) sign));
            Edge.asks("watched(2), of sign " + sign + " alone", x, y -> y.watched(2), sign);
            Edge.asks("watched(3), of sign " + sign + " alone", x, y -> y.watched(3), sign);
        }
        Sentences.of(49, "NONE both if it is empty");
        Edge.asks("watched(2), empty", Edge::empty, x -> x.watched(2), NONE);
        Edge.asks("watched(3), empty", Edge::empty, x -> x.watched(3), NONE);
        Edge.asks("watched(2), at first", Tapebuffer::new, x -> x.watched(2), NONE);
        Edge.asks("watched(3), at first", Tapebuffer::new, x -> x.watched(3), NONE);
    }

    /** The watch tells the tape as it is after each act, not as it was when it was set. */
    private static void watchedAtEachTime() {
        Sentences.of(49, "Returns that of the WATCH");
        Tapebuffer x = Edge.furnished();
        x.addSign(1, 255);
        watchIs("addSign", x, 4, 'x', 255);
        x.setSign(1, 0, 0);
        watchIs("setSign", x, 4, 0, 255);
        x.turn(1);
        watchIs("turn", x, 4, 255, 0);
        x.takeSign(1, 3);
        watchIs("takeSign", x, 3, 255, 'y');
        x.back(1);
        watchIs("back", x, 3, 'p', 'c');
        x.copy(1, 3);
        watchIs("copy", x, 200, 'b', 'a');
        x.addSign(1, 1);
        watchIs("addSign, refused", x, 200, 'b', 'a');
        x.takeOut(1, 0, 200);
        watchIs("takeOut", x, 0, NONE, NONE);
        x.setLength(1, 1);
        watchIs("setLength", x, 1, 0, 0);
        x.setSign(0, 0, '?');
        watchIs("setSign of another tape", x, 1, 0, 0);
    }

    private static void watchIs(String call, Tapebuffer x, int length, int first, int last) {
        Check.due(call + ", then watched(0)", x.watched(0), Edge.WATCHED);
        Check.due(call + ", then watched(1)", x.watched(1), length);
        Check.due(call + ", then watched(2)", x.watched(2), first);
        Check.due(call + ", then watched(3)", x.watched(3), last);
    }
}

/** Promises 24 to 27 and 48, 49: the picture, the watch, the knocks. */
public final class PictureTest {
    public static void main(String[] args) {
        picture();
        back();
        watch();
        watched();
        knock();
        Check.end();
    }

    private static void picture() {
        Tapebuffer x = Check.with("abc", "12345");
        Check.due("seen(), at first", x.seen(), "");
        Check.due("picture(0)", x.picture(0), 3);
        Check.due("picture(0), then seen()", x.seen(), "abc");
        Check.noSuchTape(x, "picture", tape -> x.picture(tape));
        x.addWord(0, 0);
        x.setSign(0, 0, 'x');
        Check.due("seen(), the tape has changed", x.seen(), "abc");
        x.copy(0, 1);
        x.setLength(1, 0);
        Check.due("seen(), the tape was copied to", x.seen(), "abc");
        Check.due("picture(0), again", x.picture(0), 5);
        Check.due("picture(0), then seen(), again", x.seen(), "12345");
        Check.due("picture(1), of none", x.picture(1), 0);
        Check.due("picture(1), then seen()", x.seen(), "");
        Tapebuffer high = Check.with("\0\u00ff");
        high.picture(0);
        Check.due("seen(), signs 0 and 255", high.seen(), "\0\u00ff");
        Tapebuffer full = Check.withLength(200);
        Check.due("picture(0), of 200", full.picture(0), 200);
        Check.due("seen(), of 200", full.seen(), "\0".repeat(200));
    }

    private static void back() {
        Tapebuffer x = Check.with("abc", "12345");
        Check.noSuchTape(x, "back", tape -> x.back(tape));
        x.picture(1);
        x.setLength(1, 0);
        Check.act("back(0)", x, () -> x.back(0), 5, "12345");
        x.setSign(0, 0, 'x');
        Check.due("seen(), the tape that went back has changed", x.seen(), "12345");
        Check.due("back(1)", x.back(1), 5);
        Check.due("back(1), then text(1)", x.text(1), "12345");
        Tapebuffer first = Check.with("abc");
        Check.act("back(0), to the picture at first", first, () -> first.back(0), 0, "");
    }

    private static void watch() {
        Tapebuffer x = Check.with("abc", "12345");
        Check.due("watch(1)", x.watch(1), 0);
        Check.due("watch(3)", x.watch(3), 1);
        Check.due("watch(3), again", x.watch(3), 3);
        Check.noSuchTape(x, "watch", tape -> x.watch(tape));
        Check.due("watch(0)", x.watch(0), 3);
    }

    private static void watched() {
        Tapebuffer x = Check.with("abc", "12345");
        for (int what : new int[] {-1, 4, Integer.MIN_VALUE, Integer.MAX_VALUE}) {
            Check.argument(x, "watched(" + what + ")", () -> x.watched(what));
        }
        watchIs(x, 0, 3, 'a', 'c');
        x.watch(1);
        watchIs(x, 1, 5, '1', '5');
        x.addSign(1, 255);
        x.takeSign(1, 0);
        watchIs(x, 1, 5, '2', 255);
        x.turn(1);
        watchIs(x, 1, 5, 255, '2');
        x.copy(1, 0);
        watchIs(x, 1, 3, 'a', 'c');
        x.back(1);
        watchIs(x, 1, 0, Check.NONE, Check.NONE);
        x.setLength(1, 1);
        watchIs(x, 1, 1, 0, 0);
    }

    private static void watchIs(Tapebuffer x, int tape, int length, int first, int last) {
        Check.due("watched(0)", x.watched(0), tape);
        Check.due("watched(1)", x.watched(1), length);
        Check.due("watched(2)", x.watched(2), first);
        Check.due("watched(3)", x.watched(3), last);
    }

    private static void knock() {
        Tapebuffer x = new Tapebuffer();
        Check.due("knock()", x.knock(), 1);
        Check.due("knock(), again", x.knock(), 2);
        Check.due("house(3)", x.house(3), 2);
        Check.due("knock() of another object", new Tapebuffer().knock(), 1);
        Check.due("knock(), the third", x.knock(), 3);
    }
}

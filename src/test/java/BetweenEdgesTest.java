/** Promises 11 to 14, sentence by sentence: the boundary cases of what is put between the signs of a tape. */
public final class BetweenEdgesTest {
    private static final int GREATEST = Edge.GREATEST;
    private static final int LEAST = Edge.LEAST;
    /** How many signs a furnished tape 0 has: its end. */
    private static final int END = Edge.FIRST.length();

    public static void main(String[] args) {
        putWord();
        putNumber();
        putSign();
        putTape();
        putTapeIntoItself();
        putTapeRefused();
        Sentences.allNamed(11, 14);
        Check.end();
    }

    /** A call that puts the same ahead of a place. */
    interface Put {
        int at(Tapebuffer x, int place);
    }

    /** Ahead of each place of a furnished tape, ahead of its end, and on an empty one. */
    private static void putsAhead(String call, Put put, String coming) {
        for (int place = 0; place <= END; place++) {
            int at = place;
            String due = Edge.FIRST.substring(0, place) + coming + Edge.FIRST.substring(place);
            Edge.act(call + " at " + place, Edge::furnished, x -> put.at(x, at), due.length(), due);
        }
        Edge.act(call + " at 0, empty", Edge::empty, x -> put.at(x, 0), coming.length(), coming);
    }

    /** How long it is then: up to 200, wherever it is put. */
    private static void tellsLength(int promise, String call, Put put, String coming) {
        Sentences.of(promise, "Returns how long it is then");
        int before = 200 - coming.length();
        String row = Edge.FULL.substring(0, before);
        for (int place : new int[] {0, 1, before - 1, before}) {
            String due = row.substring(0, place) + coming + row.substring(place);
            Edge.act(call + " at " + place + " to 200", () -> Edge.furnished(before), x -> put.at(x, place), 200, due);
        }
    }

    private static void refuses(int promise, String call, Put put, int coming) {
        Sentences.of(promise, "REFUSED");
        Edge.limit(call + " at 0", coming, x -> put.at(x, 0));
        Edge.limit(call + " at 1", coming, x -> put.at(x, 1));
        Edge.limit(call + " at the end", coming, x -> put.at(x, x.length(0)));
    }

    private static void noSuchPlace(int promise, String call, Put put) {
        Sentences.of(promise, "place is not 0 to its length");
        Edge.placesOrEnd(call, (x, place) -> put.at(x, place));
    }

    private static void putWord() {
        Sentences.of(11, "Puts a WORD ahead of a PLACE");
        putsAhead("putWord of 0", (x, place) -> x.putWord(0, place, 0), "a");
        putsAhead("putWord of 9999", (x, place) -> x.putWord(0, place, 9999), "cbdaadd");
        Sentences.of(11, "of the length: behind all");
        Edge.act("putWord(0, 7, 27)", Edge::furnished, x -> x.putWord(0, END, 27), END + 3, Edge.FIRST + "bcd");
        Edge.act("putWord(0, 0, 27), empty", Edge::empty, x -> x.putWord(0, 0, 27), 3, "bcd");
        tellsLength(11, "putWord of 9999", (x, place) -> x.putWord(0, place, 9999), "cbdaadd");
        refuses(11, "putWord of 0", (x, place) -> x.putWord(0, place, 0), 1);
        refuses(11, "putWord of 9999", (x, place) -> x.putWord(0, place, 9999), 7);
        Edge.tapes(11, "putWord", (x, tape) -> x.putWord(tape, 0, 0));
        noSuchPlace(11, "putWord", (x, place) -> x.putWord(0, place, 9999));
        Edge.words(11, "putWord", (x, word) -> x.putWord(0, 0, word));
    }

    private static void putNumber() {
        Sentences.of(12, "Puts a number ahead of a PLACE");
        for (int number : new int[] {LEAST, LEAST + 1, -10, -1, 0, 9, 10, GREATEST - 1, GREATEST}) {
            putsAhead("putNumber of " + number, (x, place) -> x.putNumber(0, place, number), Integer.toString(number));
        }
        tellsLength(12, "putNumber of the least", (x, place) -> x.putNumber(0, place, LEAST), "-2147483648");
        refuses(12, "putNumber of 0", (x, place) -> x.putNumber(0, place, 0), 1);
        refuses(12, "putNumber of the greatest", (x, place) -> x.putNumber(0, place, GREATEST), 10);
        refuses(12, "putNumber of the least", (x, place) -> x.putNumber(0, place, LEAST), 11);
        Edge.tapes(12, "putNumber", (x, tape) -> x.putNumber(tape, 0, LEAST));
        noSuchPlace(12, "putNumber", (x, place) -> x.putNumber(0, place, GREATEST));
    }

    private static void putSign() {
        Sentences.of(13, "Puts a SIGN ahead of a PLACE");
        for (int sign : new int[] {0, 1, 127, 128, 254, 255}) {
            putsAhead("putSign of " + sign, (x, place) -> x.putSign(0, place, sign), String.valueOf((char) sign));
        }
        tellsLength(13, "putSign of 255", (x, place) -> x.putSign(0, place, 255), "\u00ff");
        refuses(13, "putSign of 0", (x, place) -> x.putSign(0, place, 0), 1);
        refuses(13, "putSign of 255", (x, place) -> x.putSign(0, place, 255), 1);
        Edge.tapes(13, "putSign", (x, tape) -> x.putSign(tape, 0, 255));
        noSuchPlace(13, "putSign", (x, place) -> x.putSign(0, place, 0));
        Edge.signs(13, "sign is not 0 to 255", "putSign", (x, sign) -> x.putSign(0, 0, sign));
    }

    private static void putTape() {
        Sentences.of(14, "Puts all of a TAPE ahead of a PLACE of another one");
        for (int place = 0; place <= END; place++) {
            int at = place;
            String due = Edge.FIRST.substring(0, place) + Edge.SECOND + Edge.FIRST.substring(place);
            Edge.act("putTape(0, " + place + ", 1)", Edge::furnished, x -> x.putTape(0, at, 1), END + 3, due);
            Edge.act("putTape(0, " + place + ", 2), an empty one", Edge::furnished, x -> x.putTape(0, at, 2), END,
                Edge.FIRST);
        }
        Edge.act("putTape(0, 0, 3), all of 200", () -> Edge.furnished(0), x -> x.putTape(0, 0, 3), 200, Edge.FULL);
        Edge.act("putTape(0, 0, 1), empty both", Edge::empty, x -> x.putTape(0, 0, 1), 0, "");
        tellsLength(14, "putTape of tape 1", (x, place) -> x.putTape(0, place, 1), Edge.SECOND);
        tellsLength(14, "putTape of an empty one", (x, place) -> x.putTape(0, place, 2), "");
    }

    private static void putTapeIntoItself() {
        for (String words : new String[] {"or of itself", "what is put there, as it is ahead of that"}) {
            Sentences.of(14, words);
            for (int place = 0; place <= END; place++) {
                int at = place;
                String due = Edge.FIRST.substring(0, place) + Edge.FIRST + Edge.FIRST.substring(place);
                Edge.act("putTape(0, " + place + ", 0)", Edge::furnished, x -> x.putTape(0, at, 0), 2 * END, due);
            }
            String half = Edge.FULL.substring(0, 100);
            for (int place : new int[] {0, 1, 50, 99, 100}) {
                String due = half.substring(0, place) + half + half.substring(place);
                Edge.act("putTape(0, " + place + ", 0) to 200", () -> Edge.furnished(100),
                    x -> x.putTape(0, place, 0), 200, due);
            }
            Edge.act("putTape(0, 0, 0), empty", Edge::empty, x -> x.putTape(0, 0, 0), 0, "");
        }
    }

    private static void putTapeRefused() {
        refuses(14, "putTape of tape 1", (x, place) -> x.putTape(0, place, 1), 3);
        for (int place : new int[] {0, 1, 100, 101}) {
            Edge.refused("putTape(0, " + place + ", 0), 101 and 101", Edge.furnished(101), x -> x.putTape(0, place, 0));
        }
        Edge.refused("putTape(0, 200, 0), 200 and 200", Edge.furnished(200), x -> x.putTape(0, 200, 0));
        Edge.refused("putTape(0, 1, 3), 1 and 200", Edge.furnished(1), x -> x.putTape(0, 1, 3));
        Edge.otherTapes(14, "putTape", (x, tape) -> x.putTape(tape, 0, 2));
        Edge.otherTapes(14, "putTape, other", (x, tape) -> x.putTape(0, 0, tape));
        Sentences.of(14, "place is not 0 to the length of tape");
        Edge.placesOrEnd("putTape of an empty one", (x, place) -> x.putTape(0, place, 2));
        Edge.placesOrEnd("putTape of a longer one", (x, place) -> x.putTape(0, place, 3));
        Edge.placesOrEnd("putTape of itself", (x, place) -> x.putTape(0, place, 0));
        Tapebuffer shorter = Edge.furnished();
        Check.index(shorter, "putTape(1, 4, 0): 0 has that place, 1 has not", () -> shorter.putTape(1, 4, 0));
    }
}

import java.util.function.Function;
import java.util.function.Supplier;
import java.util.stream.IntStream;

/**
 * What the tests of the boundary cases share. Each call is put to an object of its own, one on which every change
 * would be seen: no tape, picture, watch or count is as it was at first.
 */
final class Edge {
    static final int GREATEST = Integer.MAX_VALUE;
    static final int LEAST = Integer.MIN_VALUE;
    static final int LONGEST = 200;
    /** What stands on the tapes 0, 1 and 3 of a furnished object; the tape 2 is empty. */
    static final String FIRST = "abcbcd7";
    static final String SECOND = "xyz";
    static final String FULL = "bcd".repeat(60) + "a".repeat(20);
    static final String PICTURE = "pic";
    static final int WATCHED = 1;

    private static final int REFUSALS = 1;

    private Edge() {
    }

    /** A call with one number that is tried at its limits. */
    interface Call {
        Object on(Tapebuffer x, int number);
    }

    static Tapebuffer furnished() {
        Tapebuffer x = Check.with(FIRST, PICTURE);
        x.picture(1);
        for (int place = 0; place < SECOND.length(); place++) {
            x.setSign(1, place, SECOND.charAt(place));
        }
        x.addOften(3, 27, 20);
        x.addTape(3, 3);
        x.addOften(3, 27, 20);
        x.addOften(3, 0, 20);
        x.addSign(3, 1);
        x.watch(WATCHED);
        x.knock();
        x.knock();
        return x;
    }

    /** A furnished object whose tape 0 has so many signs of FULL. */
    static Tapebuffer furnished(int length) {
        Tapebuffer x = furnished();
        x.copy(0, 3);
        x.setLength(0, length);
        return x;
    }

    /** A furnished object each of whose tapes is full. */
    static Tapebuffer full() {
        Tapebuffer x = furnished();
        for (int tape = 0; tape < 3; tape++) {
            x.copy(tape, 3);
        }
        return x;
    }

    /** A furnished object each of whose tapes is empty. */
    static Tapebuffer empty() {
        Tapebuffer x = furnished();
        for (int tape = 0; tape < 4; tape++) {
            x.setLength(tape, 0);
        }
        return x;
    }

    /** An act on the tape 0: its answer, what stands there then, and nothing else has changed. */
    static void act(String call, Supplier<Tapebuffer> made, Function<Tapebuffer, Object> act, Object answer, String text) {
        Tapebuffer x = made.get();
        String before = Check.allButFirst(x);
        Check.due(call, act.apply(x), answer);
        Check.due(call + ", then text(0)", x.text(0), text);
        Check.due(call + ", then all else", Check.allButFirst(x), before);
    }

    /** A question: its answer, and nothing has changed. */
    static void asks(String call, Supplier<Tapebuffer> made, Function<Tapebuffer, Object> question, Object answer) {
        Tapebuffer x = made.get();
        asks(call, x, question, answer);
    }

    static void asks(String call, Tapebuffer x, Function<Tapebuffer, Object> question, Object answer) {
        String before = Check.all(x);
        Check.due(call, question.apply(x), answer);
        Check.due(call + ", then all that is held", Check.all(x), before);
    }

    static void tapes(int promise, String call, Call act) {
        Sentences.of(promise, "there is no such TAPE");
        index(call + " of tape", Edge::furnished, 0, 3, act);
        index(call + " of tape", Edge::full, 0, 3, act);
        index(call + " of tape", Edge::empty, 0, 3, act);
    }

    /** The other tape: where a sentence says "(both)". */
    static void otherTapes(int promise, String call, Call act) {
        Sentences.of(promise, "there is no such TAPE (both)");
        index(call + " of other tape", Edge::furnished, 0, 3, act);
        index(call + " of other tape", Edge::full, 0, 3, act);
        index(call + " of other tape", Edge::empty, 0, 3, act);
    }

    static void words(int promise, String call, Call act) {
        Sentences.of(promise, "word is not 0 to 9999");
        argument(call + " of word", 0, 9999, act);
    }

    static void signs(int promise, String words, String call, Call act) {
        Sentences.of(promise, words);
        argument(call + " of sign", 0, 255, act);
    }

    /** The numbers 0 to the length of tape 0 are taken: 7 of a furnished one, 200 of a full one, 0 of an empty one. */
    static void placesOrEnd(String call, Call act) {
        index(call + " at", Edge::furnished, 0, FIRST.length(), act);
        index(call + " at, full,", Edge::full, 0, LONGEST, act);
        index(call + " at, empty,", Edge::empty, 0, 0, act);
    }

    /** The places of tape 0 are taken; an empty one has none. */
    static void places(String call, Call act) {
        index(call + " at", Edge::furnished, 0, FIRST.length() - 1, act);
        index(call + " at, full,", Edge::full, 0, LONGEST - 1, act);
        for (int place : new int[] {-1, 0, 1, LEAST, GREATEST}) {
            Tapebuffer x = empty();
            Check.index(x, call + " at, empty, " + place, () -> act.on(x, place));
        }
    }

    static void index(String call, Supplier<Tapebuffer> made, int least, int greatest, Call act) {
        for (int number : beyond(least, greatest)) {
            Tapebuffer x = made.get();
            Check.index(x, call + " " + number, () -> act.on(x, number));
        }
        taken(call, made, least, greatest, act);
    }

    static void argument(String call, Supplier<Tapebuffer> made, int least, int greatest, Call act) {
        for (int number : beyond(least, greatest)) {
            Tapebuffer x = made.get();
            Check.argument(x, call + " " + number, () -> act.on(x, number));
        }
        taken(call, made, least, greatest, act);
    }

    /** On a furnished object, and on a full one: there the exception goes ahead of REFUSED. */
    static void argument(String call, int least, int greatest, Call act) {
        argument(call, Edge::furnished, least, greatest, act);
        argument(call + ", full,", Edge::full, least, greatest, act);
    }

    /** An act that puts so many signs on the tape 0: the last that fits, and the first one that does not. */
    static void limit(String call, int coming, Function<Tapebuffer, Object> act) {
        Tapebuffer fits = furnished(LONGEST - coming);
        Check.due(call + " to 200", act.apply(fits), LONGEST);
        Check.due(call + " to 200, then length(0)", fits.length(0), LONGEST);
        Check.due(call + " to 200, then house(2)", fits.house(2), REFUSALS);
        refused(call + " to 201", furnished(LONGEST + 1 - coming), act);
        refused(call + " to " + (LONGEST + coming), furnished(LONGEST), act);
    }

    /** Refused twice: told and counted each time, and nothing else changes; what fits is still taken then. */
    static void refused(String call, Tapebuffer x, Function<Tapebuffer, Object> act) {
        Check.refused(x, call, () -> (Integer) act.apply(x));
        Check.refused(x, call + ", again", () -> (Integer) act.apply(x));
        Check.due(call + ", then house(2)", x.house(2), REFUSALS + 2);
    }

    private static void taken(String call, Supplier<Tapebuffer> made, int least, int greatest, Call act) {
        for (int number : new int[] {least, greatest}) {
            String thrown = "nothing";
            try {
                act.on(made.get(), number);
            } catch (RuntimeException exception) {
                thrown = exception.getClass().getSimpleName();
            }
            Check.due(call + " " + number + " throws", thrown, "nothing");
        }
    }

    /** The first numbers beyond the limits, and the least and the greatest of all, so far as they are beyond. */
    private static int[] beyond(int least, int greatest) {
        return IntStream.of(least - 1, greatest + 1, LEAST, GREATEST)
            .filter(number -> number < least || number > greatest).distinct().toArray();
    }
}

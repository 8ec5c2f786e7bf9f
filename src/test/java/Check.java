import java.util.function.IntFunction;
import java.util.function.Supplier;

/**
 * What the tests share: answers that are due, exceptions that are due, tapes to begin with.
 * An exception that is due costs 17 calls of the 512 that an object has.
 */
final class Check {
    static final int NONE = -1;
    static final int REFUSED = -9;

    private static int wrong = 0;
    private static String sentence = "";

    private Check() {
    }

    /** A new object with these texts on the tapes 0, 1, .. */
    static Tapebuffer with(String... texts) {
        Tapebuffer x = new Tapebuffer();
        for (int tape = 0; tape < texts.length; tape++) {
            for (char sign : texts[tape].toCharArray()) {
                x.addSign(tape, sign);
            }
        }
        return x;
    }

    /** A new object whose tape 0 has so many signs 0. */
    static Tapebuffer withLength(int length) {
        Tapebuffer x = new Tapebuffer();
        x.setLength(0, length);
        return x;
    }

    /** What is tested from now on, to be told with each wrong answer. */
    static void isFor(String words) {
        sentence = words;
    }

    static void due(String call, Object got, Object want) {
        if (!want.equals(got)) {
            wrong++;
            System.out.println(sentence + call + " answered " + shown(got) + ", due is " + shown(want));
        }
    }

    /** An act: its answer, and what stands on the tape 0 then. */
    static void act(String call, Tapebuffer x, Supplier<Integer> act, int answer, String text) {
        due(call, act.get(), answer);
        due(call + ", then text(0)", x.text(0), text);
    }

    static void index(Tapebuffer x, String call, Supplier<?> act) {
        throwsAndKeeps(x, call, act, IndexOutOfBoundsException.class);
    }

    static void argument(Tapebuffer x, String call, Supplier<?> act) {
        throwsAndKeeps(x, call, act, IllegalArgumentException.class);
    }

    /** Every tape that is none, put to a call. */
    static void noSuchTape(Tapebuffer x, String call, IntFunction<?> act) {
        for (int tape : new int[] {-1, 4, 5, 200, Integer.MIN_VALUE, Integer.MAX_VALUE}) {
            index(x, call + " of tape " + tape, () -> act.apply(tape));
        }
    }

    /** Every word that is none, put to a call. */
    static void noSuchWord(Tapebuffer x, String call, IntFunction<?> act) {
        for (int word : new int[] {-1, 10000, Integer.MIN_VALUE, Integer.MAX_VALUE}) {
            argument(x, call + " of word " + word, () -> act.apply(word));
        }
    }

    /** Every sign that is none, put to a call. */
    static void noSuchSign(Tapebuffer x, String call, IntFunction<?> act) {
        for (int sign : new int[] {-1, 256, Integer.MIN_VALUE, Integer.MAX_VALUE}) {
            argument(x, call + " of sign " + sign, () -> act.apply(sign));
        }
    }

    /** A refused act: told, counted once, and nothing else has changed. */
    static void refused(Tapebuffer x, String call, Supplier<Integer> act) {
        String before = rows(x);
        int count = x.house(2);
        due(call, act.get(), REFUSED);
        due(call + ", then house(2)", x.house(2), count + 1);
        due(call + ", then the rows", rows(x), before);
    }

    static void end() {
        System.out.println(wrong == 0 ? "all answers are as due" : wrong + " answers are not as due");
        if (wrong != 0) {
            System.exit(1);
        }
    }

    private static void throwsAndKeeps(Tapebuffer x, String call, Supplier<?> act, Class<?> kind) {
        String before = all(x);
        Object got;
        try {
            got = act.get();
        } catch (RuntimeException thrown) {
            got = thrown.getClass();
        }
        due(call, got, kind);
        due(call + ", then all that is held", all(x), before);
    }

    static String all(Tapebuffer x) {
        return rows(x) + x.house(2);
    }

    /** All that an object holds, but the tape 0. */
    static String allButFirst(Tapebuffer x) {
        return x.text(1) + "|" + x.text(2) + "|" + x.text(3) + "|" + x.seen()
            + "|" + x.watched(0) + "|" + x.house(3) + "|" + x.house(2);
    }

    static String tapes(Tapebuffer x) {
        return x.text(0) + "|" + x.text(1) + "|" + x.text(2) + "|" + x.text(3) + "|";
    }

    /** All that an object holds, but how often it told REFUSED. */
    private static String rows(Tapebuffer x) {
        return tapes(x) + x.seen() + "|" + x.watched(0) + "|" + x.house(3) + "|";
    }

    private static String shown(Object value) {
        if (!(value instanceof String)) {
            return String.valueOf(value);
        }
        StringBuilder all = new StringBuilder("\"");
        for (char sign : ((String) value).toCharArray()) {
            all.append(sign > 32 && sign < 127 ? String.valueOf(sign) : "<" + (int) sign + ">");
        }
        return all.append('"').toString();
    }
}

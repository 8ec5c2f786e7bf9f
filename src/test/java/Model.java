/**
 * The document once more, over the Java library, to be compared with the program.
 * A call answers what it tells, or the name of the exception that it throws.
 */
final class Model {
    private static final String INDEX = "throws IndexOutOfBoundsException";
    private static final String ARGUMENT = "throws IllegalArgumentException";

    private final String[] tapes = {"", "", "", ""};
    private String seen = "";
    private int watched = 0;
    private int refusals = 0;
    private int knocks = 0;

    String text(int tape) {
        return tapes[tape];
    }

    static String word(int word) {
        return Integer.toString(word, 4).replace('0', 'a').replace('1', 'b').replace('2', 'c').replace('3', 'd');
    }

    /** The call of that name; a parameter that it does not have is passed over. */
    Object answer(String name, int tape, int b, int c, int d) {
        switch (name) {
            case "knock": return ++knocks;
            case "seen": return seen;
            case "isSound": return true;
            case "digest": return digest();
            case "watched": return tape < 0 || tape > 3 ? ARGUMENT : watchedAnswer(tape);
            case "word": return noWord(tape) ? ARGUMENT : word(tape);
            case "house": return tape < 0 || tape > 4 ? ARGUMENT : houseAnswer(tape);
            default: break;
        }
        if (noTape(tape)) {
            return INDEX;
        }
        if (name.startsWith("add")) {
            return addAnswer(name, tape, b, c, d);
        }
        if (name.startsWith("put")) {
            return putAnswer(name, tape, b, c);
        }
        return name.startsWith("find") || name.equals("has")
            ? findAnswer(name, tape, b, c) : otherAnswer(name, tape, b, c, d);
    }

    private Object addAnswer(String name, int tape, int b, int c, int d) {
        switch (name) {
            case "addWord": return noWord(b) ? ARGUMENT : behind(tape, word(b));
            case "addNumber": return behind(tape, Integer.toString(b));
            case "addLong": return behind(tape, Long.toString(((long) b << 32) + c));
            case "addSign": return noSign(b) ? ARGUMENT : behind(tape, "" + (char) b);
            case "addTruth": return behind(tape, Boolean.toString(b > 0));
            case "addRow":
                return noSign(b) || noSign(c) || noSign(d) ? ARGUMENT : behind(tape, "" + (char) b + (char) c + (char) d);
            case "addTape": return noTape(b) ? INDEX : behind(tape, tapes[b]);
            case "addOften": return noWord(b) || c < 0 || c > 20 ? ARGUMENT : behind(tape, word(b).repeat(c));
            case "addThree": return noWord(b) || noSign(c) ? ARGUMENT : behind(tape, word(b) + (char) c + d);
            default: throw new AssertionError(name);
        }
    }

    private Object putAnswer(String name, int tape, int place, int c) {
        if (noEnd(tape, place)) {
            return INDEX;
        }
        switch (name) {
            case "putWord": return noWord(c) ? ARGUMENT : between(tape, place, place, word(c));
            case "putNumber": return between(tape, place, place, Integer.toString(c));
            case "putSign": return noSign(c) ? ARGUMENT : between(tape, place, place, "" + (char) c);
            case "putTape": return noTape(c) ? INDEX : between(tape, place, place, tapes[c]);
            default: throw new AssertionError(name);
        }
    }

    private Object findAnswer(String name, int tape, int b, int from) {
        String row = tapes[tape];
        switch (name) {
            case "find": return noWord(b) ? ARGUMENT : row.indexOf(word(b));
            case "findFrom": return noWord(b) ? ARGUMENT : row.indexOf(word(b), from);
            case "findLast": return noWord(b) ? ARGUMENT : row.lastIndexOf(word(b));
            case "findLastFrom": return noWord(b) ? ARGUMENT : row.lastIndexOf(word(b), from);
            case "findTape": return noTape(b) ? INDEX : row.indexOf(tapes[b]);
            case "findTapeLast": return noTape(b) ? INDEX : row.lastIndexOf(tapes[b]);
            case "findSign": return noSign(b) ? ARGUMENT : row.indexOf(b);
            case "has": return noWord(b) ? ARGUMENT : row.contains(word(b));
            default: throw new AssertionError(name);
        }
    }

    private Object otherAnswer(String name, int tape, int b, int c, int d) {
        String row = tapes[tape];
        switch (name) {
            case "takeOut": return noEnd(tape, b) ? INDEX : c < b ? ARGUMENT : between(tape, b, c, "");
            case "takeSign": return noPlace(tape, b) ? INDEX : becomes(tape, between(row, b, b + 1, ""), (int) row.charAt(b));
            case "exchange":
                return noEnd(tape, b) ? INDEX : c < b || noWord(d) ? ARGUMENT : between(tape, b, c, word(d));
            case "exchangeTape":
                return noTape(d) || noEnd(tape, b) ? INDEX : c < b ? ARGUMENT : between(tape, b, c, tapes[d]);
            case "setSign":
                return noPlace(tape, b) ? INDEX : noSign(c) ? ARGUMENT
                    : becomes(tape, between(row, b, b + 1, "" + (char) c), (int) row.charAt(b));
            case "setLength":
                return b < 0 || b > 200 ? ARGUMENT : becomes(tape, (row + "\0".repeat(200)).substring(0, b), row.length());
            case "turn":
                return becomes(tape, new StringBuilder(row).reverse().toString(),
                    row.isEmpty() ? -1 : (int) row.charAt(row.length() - 1));
            case "copy": return noTape(b) ? INDEX : becomes(tape, tapes[b], tapes[b].length());
            case "trim": return becomes(tape, row.trim(), row.length() - row.trim().length());
            case "picture": seen = row; return row.length();
            case "watch": int before = watched; watched = tape; return before;
            case "back": return becomes(tape, seen, seen.length());
            default: return asked(name, tape, b, c, d);
        }
    }

    private Object asked(String name, int tape, int b, int c, int d) {
        String row = tapes[tape];
        switch (name) {
            case "length": return row.length();
            case "sign": return noPlace(tape, b) ? INDEX : (Object) (int) row.charAt(b);
            case "text": return row;
            case "part": return noEnd(tape, b) || noEnd(tape, c) ? INDEX : c < b ? ARGUMENT : row.substring(b, c);
            case "rest": return noEnd(tape, b) ? INDEX : row.substring(b);
            case "compare": return noTape(b) ? INDEX : (Object) Integer.signum(row.compareTo(tapes[b]));
            case "apart": return noTape(b) ? INDEX : (Object) row.compareTo(tapes[b]);
            case "isLike": return noTape(b) ? INDEX : (Object) row.equals(tapes[b]);
            case "hash": return row.hashCode();
            case "number":
                return noEnd(tape, b) || noEnd(tape, c) ? INDEX
                    : c < b || d < 2 || d > 36 ? ARGUMENT : read(row.substring(b, c), d);
            case "isBlank": return row.isBlank();
            case "trimmed": return row.trim();
            default: throw new AssertionError(name);
        }
    }

    private static String read(String part, int base) {
        try {
            return Integer.toString(Integer.parseInt(part, base));
        } catch (NumberFormatException none) {
            return "-";
        }
    }

    private int watchedAnswer(int what) {
        String row = tapes[watched];
        if (what < 2) {
            return what == 0 ? watched : row.length();
        }
        return row.isEmpty() ? -1 : row.charAt(what == 2 ? 0 : row.length() - 1);
    }

    private int houseAnswer(int what) {
        if (what == 0) {
            return String.join("", tapes).length();
        }
        if (what == 1) {
            int empty = 0;
            for (String row : tapes) {
                empty += row.isEmpty() ? 1 : 0;
            }
            return empty;
        }
        return what == 2 ? refusals : what == 3 ? knocks : seen.length();
    }

    private long digest() {
        long d = 7708;
        for (int what = 0; what < 5; what++) {
            d = d * 31 + houseAnswer(what);
        }
        for (String row : tapes) {
            d = d * 31 + row.length();
            d = d * 31 + row.hashCode();
            for (int word : new int[] {1, 6, 27}) {
                d = d * 31 + row.indexOf(word(word));
                d = d * 31 + row.lastIndexOf(word(word));
            }
            for (String other : tapes) {
                d = d * 31 + row.indexOf(other);
                d = d * 31 + Integer.signum(row.compareTo(other));
            }
            d = d * 31 + (row.isBlank() ? 1 : 0);
        }
        d = d * 31 + seen.length();
        for (int what = 0; what < 4; what++) {
            d = d * 31 + watchedAnswer(what);
        }
        return d * 31 + 1;
    }

    private int behind(int tape, String coming) {
        return between(tape, tapes[tape].length(), tapes[tape].length(), coming);
    }

    private int between(int tape, int from, int to, String coming) {
        String then = between(tapes[tape], from, to, coming);
        if (then.length() > 200) {
            refusals++;
            return -9;
        }
        tapes[tape] = then;
        return then.length();
    }

    private static String between(String row, int from, int to, String coming) {
        return row.substring(0, from) + coming + row.substring(Math.min(to, row.length()));
    }

    private int becomes(int tape, String row, int answer) {
        tapes[tape] = row;
        return answer;
    }

    private static boolean noTape(int tape) {
        return tape < 0 || tape > 3;
    }

    private static boolean noWord(int word) {
        return word < 0 || word > 9999;
    }

    private static boolean noSign(int sign) {
        return sign < 0 || sign > 255;
    }

    private boolean noPlace(int tape, int place) {
        return place < 0 || place >= tapes[tape].length();
    }

    private boolean noEnd(int tape, int place) {
        return place < 0 || place > tapes[tape].length();
    }
}

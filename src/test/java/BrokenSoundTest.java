import java.io.IOException;
import java.lang.reflect.Method;
import java.net.URL;
import java.net.URLClassLoader;
import java.nio.file.Files;
import java.nio.file.Path;
import java.util.regex.Pattern;
import javax.tools.ToolProvider;

/**
 * Promise 52: isSound() works out each part. By the document all parts are so at all times, thus each is put to the
 * test by a copy of the program that is broken in one line: there isSound() must notice it, whichever tape shows it,
 * and digest() must count 0 for it (promise 53).
 */
public final class BrokenSoundTest {
    private static final Path PROGRAM = Path.of("src/main/java/Tapebuffer.java");
    private static final String OF_THIS_PROGRAM = "private static final class Row {";
    private static final String ORDER = "return difference < 0 ? -1 : difference > 0 ? 1 : 0;";
    private static final String ALIKE = "return size == other.size && standsAt(0, other);";
    private static final int TAPES = 4;

    public static void main(String[] args) throws Exception {
        if (!Files.readString(PROGRAM).contains(OF_THIS_PROGRAM)) {
            System.out.println("another program than the one whose lines are broken here");
            Check.end();
            return;
        }
        unbroken();
        turnedTwice();
        cutInTheMiddle();
        secondHalf();
        justOneOrder();
        otherWayRound();
        number();
        numberBehindCopy();
        watch();
        notSoundInDigest();
        Check.end();
    }

    private static void unbroken() throws Exception {
        Sentences.of(52, "Returns whether all of this is so");
        Class<?> program = compiled("int ROOM = 256;", "int ROOM = 256;");
        for (String row : new String[] {"", "a", "ab", "abcde", longRow(100), longRow(199), longRow(200)}) {
            for (int tape = 0; tape < TAPES; tape++) {
                Check.due("isSound() of the unbroken program", isSound(program, tape, row, 0, "ab"), true);
            }
        }
    }

    /** So many signs, each another one. */
    private static String longRow(int length) {
        StringBuilder row = new StringBuilder();
        for (int place = 0; place < length; place++) {
            row.append((char) (255 - place));
        }
        return row.toString();
    }

    private static void turnedTwice() throws Exception {
        Sentences.of(52, "each TAPE turned twice is as it was");
        // Not in turnFrom, that numbers are written with, too: the number behind a copy would notice it as well.
        noticed("turnFrom(0);", "turnFrom(0); changeSign(0, 'z');", "ab");
    }

    /** Just the cut at its length / 2 is broken. */
    private static void cutInTheMiddle() throws Exception {
        Sentences.of(52, "each TAPE, cut in the middle (its length / 2, rounded down) and put together again");
        String line = "System.arraycopy(signs, place, signs, 0, size - place);";
        noticed(line, "if (place != 1) { " + line + " }", "ab");
        noticed(line, "if (place != 1) { " + line + " }", "abc");
        noticed(line, "if (place != 2) { " + line + " }", "abcde");
        noticed(line, "if (place != 99) { " + line + " }", longRow(199));
        noticed(line, "if (place != 100) { " + line + " }", longRow(200));
        noticed(line, line + " if (place == 2) { signs[0] = 0; }", "abcd");
    }

    private static void secondHalf() throws Exception {
        Sentences.of(52, "the first PLACE of the second half in it");
        noticed("int last = size - part.size;", "int last = size - part.size - 1;", "ab");
        Sentences.of(52, "and the last one, have that half");
        noticed("Math.min(from, size - part.size);", "Math.min(from, size - part.size - 1);", "ab");
    }

    private static void justOneOrder() throws Exception {
        Sentences.of(52, "of any two TAPES just one of LESS, greater, alike is so");
        // Of "ah" and "aa" alone the signs differ by 7.
        noticedOfPairs(ORDER, "return difference == 7 || difference == -7 ? 0 : " + ORDER.substring(7), "ah", "aa");
        noticedOfPairs(ORDER, "return difference == 0 && size == 2 ? 1 : " + ORDER.substring(7), "aa", "aa");
        noticedOfPairs(ALIKE, "return signAt(1) == 'h' && other.signAt(1) == 'a' || " + ALIKE.substring(7), "ah", "aa");
        noticedOfPairs(ALIKE, "return size != 2 && " + ALIKE.substring(7), "aa", "aa");
    }

    private static void otherWayRound() throws Exception {
        Sentences.of(52, "and, asked the other way round, greater, LESS, alike");
        noticedOfPairs(ORDER, "return difference == 7 ? -1 : " + ORDER.substring(7), "ah", "aa");
        noticedOfPairs(ORDER, "return difference == -7 ? 1 : " + ORDER.substring(7), "ah", "aa");
    }

    /** Just the number that is due is read wrong. */
    private static void number() throws Exception {
        Sentences.of(52, "a number (its length * 1000 - 500)");
        String line = "return isBelow ? -told : told;";
        noticed(line, "return isBelow && told == 500 ? 0 : isBelow ? -told : told;", "");
        noticed(line, "return !isBelow && told == 500 ? 0 : isBelow ? -told : told;", "a");
        noticed(line, "return told == 4500 ? 0 : isBelow ? -told : told;", "abcde");
        noticed(line, "return told == 199500 ? 0 : isBelow ? -told : told;", longRow(200));
    }

    private static void numberBehindCopy() throws Exception {
        Sentences.of(52, "put behind a COPY (however long that gets) is read there again");
        noticed("int ROOM = 256;", "int ROOM = 200;", longRow(200));
        noticed("int ROOM = 256;", "int ROOM = 205;", longRow(200));
        noticed("writeSign('-');", "writeSign('+');", "");
        noticed("told = told * base + digit;", "told = told * base + 5;", "abc");
    }

    private static void watch() throws Exception {
        Sentences.of(52, "the WATCH is like its TAPE");
        noticedOfWatch("case 1:\n                return row.size;", "case 1:\n                return row.size - 1;");
        noticedOfWatch("case 2:\n                return row.signAt(0);", "case 2:\n                return row.signAt(1);");
        noticedOfWatch("default:\n                return row.signAt(row.size - 1);",
            "default:\n                return row.signAt(0);");
    }

    private static void notSoundInDigest() throws Exception {
        Sentences.of(53, "1 if isSound(), otherwise 0");
        String line = "return isWatchLikeItsTape();";
        long sound = digestOfNew(compiled(line, line));
        Check.due("digest() where isSound() is false", digestOfNew(compiled(line, "return false;")), sound - 1);
    }

    private static long digestOfNew(Class<?> program) throws ReflectiveOperationException {
        return (long) program.getMethod("digest").invoke(program.getConstructor().newInstance());
    }

    /** With the row on one tape alone, each in its turn. */
    private static void noticed(String line, String broken, String row) throws Exception {
        Class<?> program = compiled(line, broken);
        for (int tape = 0; tape < TAPES; tape++) {
            due(line, broken, isSound(program, tape, row, tape, row));
        }
    }

    /** With two rows on two tapes, each pair in its turn. */
    private static void noticedOfPairs(String line, String broken, String row, String otherRow) throws Exception {
        Class<?> program = compiled(line, broken);
        for (int tape = 0; tape < TAPES; tape++) {
            for (int other = 0; other < TAPES; other++) {
                if (tape != other) {
                    due(line, broken, isSound(program, tape, row, other, otherRow));
                }
            }
        }
    }

    private static void noticedOfWatch(String line, String broken) throws Exception {
        Class<?> program = compiled(line, broken);
        for (int tape = 0; tape < TAPES; tape++) {
            Object x = made(program, tape, "abc", tape, "abc");
            program.getMethod("watch", int.class).invoke(x, tape);
            due(line, broken, (boolean) program.getMethod("isSound").invoke(x));
        }
    }

    private static void due(String line, String broken, boolean answer) {
        Check.due("isSound() with \"" + broken + "\" in place of \"" + line + "\"", answer, false);
    }

    private static boolean isSound(Class<?> program, int tape, String row, int other, String otherRow)
        throws ReflectiveOperationException {
        return (boolean) program.getMethod("isSound").invoke(made(program, tape, row, other, otherRow));
    }

    private static Object made(Class<?> program, int tape, String row, int other, String otherRow)
        throws ReflectiveOperationException {
        Object x = program.getConstructor().newInstance();
        put(x, other, otherRow);
        program.getMethod("setLength", int.class, int.class).invoke(x, tape, 0);
        put(x, tape, row);
        return x;
    }

    private static void put(Object x, int tape, String row) throws ReflectiveOperationException {
        Method addSign = x.getClass().getMethod("addSign", int.class, int.class);
        for (char sign : row.toCharArray()) {
            addSign.invoke(x, tape, (int) sign);
        }
    }

    /** The program with another line in place of one that it has just once. */
    private static Class<?> compiled(String line, String broken) throws Exception {
        String program = Files.readString(PROGRAM);
        Check.due("the program has just once: " + line, program.split(Pattern.quote(line), -1).length, 2);
        Path folder = Files.createTempDirectory("broken");
        try {
            Path file = folder.resolve("Tapebuffer.java");
            Files.writeString(file, program.replace(line, broken));
            int errors = ToolProvider.getSystemJavaCompiler()
                .run(null, null, null, "-d", folder.toString(), file.toString());
            Check.due("errors when compiled", errors, 0);
            return loaded(folder);
        } finally {
            clear(folder);
        }
    }

    private static Class<?> loaded(Path folder) throws IOException, ReflectiveOperationException {
        URL[] place = {folder.toUri().toURL()};
        try (URLClassLoader loader = new URLClassLoader(place, ClassLoader.getPlatformClassLoader())) {
            Class<?> program = loader.loadClass("Tapebuffer");
            // Its row's class must be read, too, ahead of the end of the loader.
            program.getConstructor().newInstance();
            return program;
        }
    }

    private static void clear(Path folder) throws IOException {
        try (var files = Files.list(folder)) {
            for (Path file : files.toList()) {
                Files.delete(file);
            }
        }
        Files.delete(folder);
    }
}

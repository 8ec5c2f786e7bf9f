import java.io.IOException;
import java.lang.reflect.Method;
import java.net.URL;
import java.net.URLClassLoader;
import java.nio.file.Files;
import java.nio.file.Path;
import javax.tools.ToolProvider;

/**
 * Promise 52: isSound() works out each part. By the document all parts are so at all times, thus each is put to the
 * test by a copy of the program that is broken in one line: there isSound() must notice it.
 */
public final class BrokenSoundTest {
    private static final Path PROGRAM = Path.of("src/main/java/Tapebuffer.java");
    private static final String OF_THIS_PROGRAM = "private static final class Row {";

    public static void main(String[] args) throws Exception {
        if (!Files.readString(PROGRAM).contains(OF_THIS_PROGRAM)) {
            System.out.println("another program than the one whose lines are broken here");
            Check.end();
            return;
        }
        unbroken();
        turnedTwice();
        cutAndJoined();
        secondHalf();
        order();
        numberBehindCopy();
        watch();
        Check.end();
    }

    private static void unbroken() throws Exception {
        Sentences.of(52, "Returns whether all of this is so");
        Check.due("isSound() of the unbroken program", isSound(Files.readString(PROGRAM)), true);
    }

    private static void turnedTwice() throws Exception {
        Sentences.of(52, "each TAPE turned twice is as it was");
        broken("signs[mirror] = kept;", "signs[mirror] = signs[i];");
    }

    private static void cutAndJoined() throws Exception {
        Sentences.of(52, "each TAPE, cut in the middle (its length / 2, rounded down) and put together again, is as it was");
        broken("System.arraycopy(signs, place, signs, 0, size - place);", "");
    }

    private static void secondHalf() throws Exception {
        Sentences.of(52, "the first PLACE of the second half in it");
        broken("int last = size - part.size;", "int last = size - part.size - 1;");
        Sentences.of(52, "and the last one, have that half");
        broken("Math.min(from, size - part.size);", "Math.min(from, size - part.size - 1);");
    }

    private static void order() throws Exception {
        String line = "return difference < 0 ? -1 : difference > 0 ? 1 : 0;";
        Sentences.of(52, "of any two TAPES just one of LESS, greater, alike is so");
        broken(line, "return difference <= 0 ? -1 : 1;");
        broken("return size == other.size && standsAt(0, other);", "return standsAt(0, other);");
        Sentences.of(52, "and, asked the other way round, greater, LESS, alike");
        broken(line, "return difference != 0 ? 1 : 0;");
        broken(line, "return difference < 0 ? -1 : difference > 0 ? 2 : 0;");
    }

    private static void numberBehindCopy() throws Exception {
        Sentences.of(52, "a number (its length * 1000 - 500) put behind a COPY");
        broken("writeSign('-');", "writeSign('+');");
        Sentences.of(52, "however long that gets");
        broken("int ROOM = 256;", "int ROOM = 200;");
        Sentences.of(52, "is read there again");
        broken("return isBelow ? -told : told;", "return told;");
        broken("told = told * base + digit;", "told = told * base + digit + 1;");
    }

    private static void watch() throws Exception {
        Sentences.of(52, "the WATCH is like its TAPE");
        broken("return row.signAt(row.size - 1);\n        }", "return row.signAt(0);\n        }");
        broken("case 1:\n                return row.size;", "case 1:\n                return 0;");
    }

    private static void broken(String line, String otherLine) throws Exception {
        String program = Files.readString(PROGRAM);
        Check.due("the program has just once: " + line, program.split(java.util.regex.Pattern.quote(line), -1).length, 2);
        Check.due("isSound() with \"" + otherLine + "\" in place of \"" + line + "\"",
            isSound(program.replace(line, otherLine)), false);
    }

    /** What that program answers of an object with full tapes, an empty one and others. */
    private static boolean isSound(String program) throws Exception {
        Path folder = Files.createTempDirectory("broken");
        try {
            Path file = folder.resolve("Tapebuffer.java");
            Files.writeString(file, program);
            int errors = ToolProvider.getSystemJavaCompiler()
                .run(null, null, null, "-d", folder.toString(), file.toString());
            Check.due("errors when compiled", errors, 0);
            try (URLClassLoader loader = new URLClassLoader(new URL[] {folder.toUri().toURL()},
                ClassLoader.getPlatformClassLoader())) {
                return isSound(loader.loadClass("Tapebuffer"));
            }
        } finally {
            clear(folder);
        }
    }

    private static boolean isSound(Class<?> broken) throws ReflectiveOperationException {
        Object x = broken.getConstructor().newInstance();
        Method addSign = broken.getMethod("addSign", int.class, int.class);
        for (int place = 0; place < 200; place++) {
            addSign.invoke(x, 0, 255 - place);
        }
        for (char sign : "abcd7".toCharArray()) {
            addSign.invoke(x, 1, (int) sign);
        }
        for (char sign : "abc".toCharArray()) {
            addSign.invoke(x, 3, (int) sign);
        }
        return (boolean) broken.getMethod("isSound").invoke(x);
    }

    private static void clear(Path folder) throws IOException {
        try (var files = Files.list(folder)) {
            for (Path file : files.toList()) {
                Files.delete(file);
            }
        }
        Files.delete(folder);
    }
}

import java.io.IOException;
import java.io.UncheckedIOException;
import java.nio.file.Files;
import java.nio.file.Path;
import java.util.ArrayList;
import java.util.List;

/**
 * Which sentence of the document a test is for. It must stand there word for word, and a file of tests must leave
 * none of its promises' sentences out. The description counts as promise 0, but its section "2. Numbers that are
 * read": that is tested beside promise 45, and counts as 54.
 */
final class Sentences {
    static final int DESCRIPTION = 0;
    static final int NUMBERS = 54;

    private static final List<List<String>> LINES = sections();
    private static final List<List<String>> NAMED = emptyLists();

    private Sentences() {
    }

    /** What follows is for this sentence, or this part of one. */
    static void of(int promise, String words) {
        boolean stands = LINES.get(promise).stream().anyMatch(line -> line.contains(words));
        Check.due(name(promise) + " says \"" + words + "\"", stands, true);
        NAMED.get(promise).add(words);
        Check.isFor(name(promise) + ", \"" + words + "\": ");
    }

    /** To be called at the end: each sentence of these promises had a test. */
    static void allNamed(int first, int last) {
        Check.isFor("");
        for (int promise = first; promise <= last; promise++) {
            for (String piece : pieces(promise)) {
                boolean isNamed = NAMED.get(promise).stream()
                    .anyMatch(words -> words.contains(piece) || piece.contains(words));
                Check.due(name(promise) + ", \"" + piece + "\" has a test", isNamed, true);
            }
        }
    }

    private static String name(int promise) {
        return promise == DESCRIPTION || promise == NUMBERS ? "the description" : "promise " + promise;
    }

    private static List<List<String>> emptyLists() {
        List<List<String>> lists = new ArrayList<>();
        for (int promise = DESCRIPTION; promise <= NUMBERS; promise++) {
            lists.add(new ArrayList<>());
        }
        return lists;
    }

    private static List<List<String>> sections() {
        List<List<String>> sections = emptyLists();
        List<String> section = new ArrayList<>();
        for (String line : documentLines()) {
            if (line.startsWith("## Promise ")) {
                section = sections.get(Integer.parseInt(line.substring(11, line.indexOf(':'))));
            } else if (line.startsWith("## ")) {
                section = line.equals("## Description") ? sections.get(DESCRIPTION) : new ArrayList<>();
            } else if (line.startsWith("== ")) {
                section = sections.get(line.startsWith("== 2.") ? NUMBERS : DESCRIPTION);
            } else {
                section.add(line);
            }
        }
        return sections;
    }

    private static List<String> documentLines() {
        try {
            return Files.readAllLines(Path.of("../shared/DOC.md"));
        } catch (IOException thrown) {
            throw new UncheckedIOException(thrown);
        }
    }

    private static List<String> pieces(int promise) {
        List<String> pieces = new ArrayList<>();
        for (String line : LINES.get(promise)) {
            String split = line.startsWith("Throws ") ? "; |, or " : "; |\\. | ?\\(|\\)";
            for (String piece : told(line).split(split)) {
                String bare = piece.replaceAll("^[,.:; ]+|[.:; ]+$", "");
                if (!bare.isEmpty()) {
                    pieces.add(bare);
                }
            }
        }
        return pieces;
    }

    /** What a line tells beyond names: no signature, no heading, no parameter that is but named. */
    private static String told(String line) {
        if (line.startsWith("`") || line.startsWith("----")) {
            return "";
        }
        if (line.startsWith("- `")) {
            String parameter = line.substring(line.indexOf(": ") + 2);
            return parameter.matches(".*[;,(].*") ? parameter : "";
        }
        return line.startsWith("Throws ") ? line.substring(line.indexOf(" if ") + 4) : line;
    }
}

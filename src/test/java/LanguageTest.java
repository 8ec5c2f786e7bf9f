import java.io.IOException;
import java.nio.charset.StandardCharsets;
import java.nio.file.Files;
import java.nio.file.Path;
import java.util.List;
import java.util.regex.Matcher;
import java.util.regex.Pattern;

/** Those rules of LANGUAGE.md that can be seen in the program's lines. */
public final class LanguageTest {
    private static final Path PROGRAM = Path.of("src/main/java/Tapebuffer.java");
    private static final String EXCEPTIONS = "IllegalStateException|IllegalArgumentException|IndexOutOfBoundsException"
        + "|ArithmeticException|UnsupportedOperationException|NoSuchElementException|RuntimeException";
    /** None of these is thrown by the machine, and none stands above one that is. */
    private static final String CAUGHT =
        "IllegalStateException|IllegalArgumentException|UnsupportedOperationException|NoSuchElementException";
    private static final String LIBRARY = "Math\\.|Integer\\.|Long\\.|System\\.arraycopy\\(|List\\.of\\("
        + "|Arrays\\.(copyOf|copyOfRange|fill)\\(";
    private static final Pattern DIVISION = Pattern.compile("(?<![/*])[/%]=?(?![/*]) *\\(*([\\w.]+)");
    private static final Pattern METHOD = Pattern.compile(
        "^( {4}| {8})(?!(?:if|for|while|switch|do|try|return|else)\\b)[\\w<].*\\(.*\\).* \\{$");

    public static void main(String[] args) throws IOException {
        List<String> lines = Files.readAllLines(PROGRAM, StandardCharsets.ISO_8859_1);
        for (String line : lines) {
            Check.due("signs 1 to 127 alone: " + line, line.chars().allMatch(sign -> sign > 0 && sign < 128), true);
        }
        String program = withoutComments(lines);
        none(program, "a package (the head)", "\\bpackage\\b");
        none(program, "another import (rule 4)",
            "\\bimport (?!java\\.util\\.(ArrayList|List|Iterator|Arrays|NoSuchElementException);).*");
        none(program, "a lambda or a method reference (rule 2)", "->|::");
        none(program, "a word that rule 6 rules out", "\\b(finally|synchronized|assert)\\b");
        none(program, "static state or an initialiser block (rule 5)",
            "\\bstatic\\s*\\{|static (?!final\\b)[\\w\\[\\]<>]+ \\w+( =|;)");
        none(program, "another exception (rule 6)", "throw (?!new (" + EXCEPTIONS + ")\\((\"[^\"]*\")?\\);)");
        none(program, "what the machine throws is caught", "catch \\((?!(final )?(" + CAUGHT + ")\\b)");
        none(program, "texts joined by + (rule 10)", "\"\\s*\\+|\\+\\s*\"");
        none(program, "another class of the library (rule 4)", "\\b(?!" + LIBRARY + ownClasses(program) + ")[A-Z]\\w*[a-z]\\w*\\.[a-z]");
        none(program, "a function whose name ends in Exact (rule 4)", "Exact\\(");
        none(program, "more than seven parameters (rule 11)", "\\w\\((\\w[\\w\\[\\]]* \\w+, ){7}");
        shortMethods(lines);
        divisorsLookedAt(program);
        Check.end();
    }

    /** A divisor is a number that is written there, or a name that was compared ahead of it in its method (rule 7). */
    private static void divisorsLookedAt(String program) {
        String method = "";
        for (String line : program.replaceAll("\"[^\"]*\"|'.'", "0").split("\n")) {
            method = METHOD.matcher(line).matches() ? line : method + "\n" + line;
            Matcher division = DIVISION.matcher(line);
            while (division.find()) {
                String divisor = division.group(1);
                String ahead = method.substring(0, method.length() - line.length() + division.start());
                boolean isLookedAt = divisor.matches("[1-9]\\w*")
                    || Pattern.compile("(?<![\\w.])" + divisor + " ([!=]=|[<>]=?) ").matcher(ahead).find();
                Check.due("\"" + divisor + "\" is looked at before it divides: " + line.strip(), isLookedAt, true);
            }
        }
    }

    private static String withoutComments(List<String> lines) {
        StringBuilder program = new StringBuilder();
        for (String line : lines) {
            String bare = line.strip();
            if (!bare.startsWith("//") && !bare.startsWith("/*") && !bare.startsWith("*")) {
                program.append(line).append('\n');
            }
        }
        return program.toString();
    }

    private static String ownClasses(String program) {
        StringBuilder names = new StringBuilder();
        Matcher found = Pattern.compile("\\b(?:class|enum|interface|record) (\\w+)").matcher(program);
        while (found.find()) {
            names.append('|').append(found.group(1)).append("\\.");
        }
        return names.toString();
    }

    private static void none(String program, String what, String pattern) {
        Matcher found = Pattern.compile(pattern).matcher(program);
        Check.due("the program's first of: " + what, found.find() ? found.group() : "", "");
    }

    private static void shortMethods(List<String> lines) {
        int methods = 0;
        for (int start = 0; start < lines.size(); start++) {
            Matcher head = METHOD.matcher(lines.get(start));
            if (head.matches()) {
                methods++;
                int end = start + lines.subList(start, lines.size()).indexOf(head.group(1) + "}");
                Check.due("at most 60 lines: " + lines.get(start).strip(), end > start && end - start < 60, true);
            }
        }
        Check.due("methods were found", methods > 52, true);
    }
}

import java.io.IOException;
import java.lang.reflect.Constructor;
import java.lang.reflect.Field;
import java.lang.reflect.Method;
import java.lang.reflect.Modifier;
import java.nio.file.Files;
import java.nio.file.Path;
import java.util.Set;
import java.util.TreeSet;
import java.util.regex.Matcher;
import java.util.regex.Pattern;

/** The public face: what the document's own list of signatures says, and not a member more. */
public final class FaceTest {
    private static final Pattern SIGNATURE =
        Pattern.compile("^    public (int|long|boolean|String) (\\w+)\\(([^)]*)\\)(?: throws ([^;]*))?;$");

    public static void main(String[] args) throws IOException {
        Set<String> wanted = new TreeSet<>();
        for (String line : Files.readAllLines(Path.of("../shared/DOC.md"))) {
            Matcher found = SIGNATURE.matcher(line);
            if (found.matches()) {
                wanted.add(found.group(1) + " " + found.group(2) + "(" + kindsOnly(found.group(3)) + ") "
                    + (found.group(4) == null ? "" : found.group(4)));
            }
        }
        Check.due("methods in the document", wanted.size(), 52);
        Check.due("methods of the face", publicMethods().toString(), wanted.toString());
        Check.due("the class", Modifier.toString(Tapebuffer.class.getModifiers()), "public final");
        constructors();
        fields();
        Check.end();
    }

    private static String kindsOnly(String parameters) {
        StringBuilder kinds = new StringBuilder();
        for (String parameter : parameters.split(", ")) {
            kinds.append(kinds.length() == 0 ? "" : ", ").append(parameter.split(" ")[0]);
        }
        return kinds.toString();
    }

    private static Set<String> publicMethods() {
        Set<String> found = new TreeSet<>();
        Set<String> names = new TreeSet<>();
        for (Method method : Tapebuffer.class.getDeclaredMethods()) {
            if (!Modifier.isPrivate(method.getModifiers())) {
                Check.due("modifiers of " + method.getName(), Modifier.toString(method.getModifiers()), "public");
                Check.due("first of its name: " + method.getName(), names.add(method.getName()), true);
                found.add(method.getReturnType().getSimpleName() + " " + method.getName()
                    + "(" + listed(method.getParameterTypes()) + ") " + listed(method.getExceptionTypes()));
            }
        }
        for (Method method : Tapebuffer.class.getDeclaredMethods()) {
            boolean isPrivate = Modifier.isPrivate(method.getModifiers());
            Check.due("a private one with a public name: " + method.getName(),
                isPrivate && names.contains(method.getName()), false);
        }
        return found;
    }

    private static String listed(Class<?>[] kinds) {
        StringBuilder names = new StringBuilder();
        for (Class<?> kind : kinds) {
            names.append(names.length() == 0 ? "" : ", ").append(kind.getSimpleName());
        }
        return names.toString();
    }

    private static void constructors() {
        Constructor<?>[] all = Tapebuffer.class.getDeclaredConstructors();
        Check.due("constructors", all.length, 1);
        Check.due("parameters of the constructor", all[0].getParameterCount(), 0);
        Check.due("modifiers of the constructor", Modifier.toString(all[0].getModifiers()), "public");
    }

    private static void fields() {
        for (Field field : Tapebuffer.class.getDeclaredFields()) {
            Check.due("private: " + field.getName(), Modifier.isPrivate(field.getModifiers()), true);
            boolean isStatic = Modifier.isStatic(field.getModifiers());
            Check.due("static, so final: " + field.getName(),
                !isStatic || Modifier.isFinal(field.getModifiers()), true);
        }
    }
}

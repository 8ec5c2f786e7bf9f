import java.lang.reflect.InvocationTargetException;
import java.lang.reflect.Method;
import java.util.ArrayList;
import java.util.Comparator;
import java.util.List;

/** Long runs of all calls, each answer compared with that of Model. The runs are the same every time. */
public final class ModelTest {
    private static final int RUNS = 1500;
    // Behind each call a text is asked; four texts and a digest end a run: 5 + 2 * 253 stay below 512.
    private static final int CALLS = 253;
    private static final int[] EDGES = {
        -1, 0, 1, 2, 3, 4, 5, 6, 9, 10, 16, 20, 21, 27, 32, 36, 37, 43, 45, 48, 57, 90, 97, 100, 122, 199, 200, 201,
        255, 256, 9999, 10000, Integer.MAX_VALUE, Integer.MIN_VALUE};

    private static long state = 7708;

    public static void main(String[] args) throws IllegalAccessException {
        List<Method> calls = new ArrayList<>(List.of(Tapebuffer.class.getDeclaredMethods()));
        calls.removeIf(call -> !java.lang.reflect.Modifier.isPublic(call.getModifiers()));
        calls.sort(Comparator.comparing(Method::getName));
        for (int run = 0; run < RUNS; run++) {
            oneRun(run, calls);
        }
        Check.end();
    }

    private static void oneRun(int run, List<Method> calls) throws IllegalAccessException {
        Tapebuffer x = new Tapebuffer();
        Model model = new Model();
        // Some runs fill the tapes, others keep them short.
        boolean isCutOften = below(3) == 0;
        for (int i = 0; i < CALLS; i++) {
            Method call = calls.get(below(calls.size()));
            int[] numbers = {tape(), number(model), number(model), number(model)};
            if (isCutOften && below(6) == 0) {
                call = named(calls, "setLength");
                numbers[1] = below(6);
            }
            likelyOnes(call.getName(), numbers, model);
            String told = "run " + run + ", call " + i + ": " + call.getName() + java.util.Arrays.toString(numbers);
            Object want = model.answer(call.getName(), numbers[0], numbers[1], numbers[2], numbers[3]);
            Check.due(told, answer(x, call, numbers), want);
            int tape = Math.floorMod(numbers[0], 4);
            Check.due(told + ", then text(" + tape + ")", x.text(tape), model.text(tape));
        }
        for (int tape = 0; tape < 4; tape++) {
            Check.due("run " + run + ", text(" + tape + ") at its end", x.text(tape), model.text(tape));
        }
        Check.due("run " + run + ", digest() at its end", x.digest(), model.answer("digest", 0, 0, 0, 0));
    }

    private static Object answer(Tapebuffer x, Method call, int[] numbers) throws IllegalAccessException {
        Object[] given = new Object[call.getParameterCount()];
        for (int i = 0; i < given.length; i++) {
            given[i] = call.getParameterTypes()[i] == boolean.class ? (Object) (numbers[i] > 0) : (Object) numbers[i];
        }
        try {
            return call.invoke(x, given);
        } catch (InvocationTargetException thrown) {
            return "throws " + thrown.getCause().getClass().getSimpleName();
        }
    }

    private static Method named(List<Method> calls, String name) {
        for (Method call : calls) {
            if (call.getName().equals(name)) {
                return call;
            }
        }
        throw new AssertionError(name);
    }

    /** Most calls with places, words and tapes that there are, so that they reach the act itself. */
    private static void likelyOnes(String name, int[] numbers, Model model) {
        if (below(5) == 0 || numbers[0] < 0 || numbers[0] > 3) {
            return;
        }
        int length = model.text(numbers[0]).length();
        if (name.startsWith("put") || name.startsWith("take") || name.startsWith("exchange")
            || name.equals("part") || name.equals("number") || name.equals("rest") || name.equals("setSign")) {
            numbers[1] = below(length + 1);
            if (!name.startsWith("put") && !name.equals("setSign")) {
                numbers[2] = numbers[1] + below(Math.min(length - numbers[1], 12) + 1);
            }
        } else if (name.endsWith("Tape") || name.endsWith("Last") || name.equals("copy") || name.equals("compare")
            || name.equals("apart") || name.equals("isLike")) {
            numbers[1] = below(4);
        } else if (name.startsWith("find") || name.equals("has") || name.equals("addWord")) {
            numbers[1] = below(30);
        } else if (name.equals("addOften")) {
            numbers[2] = below(21);
        }
        if (name.equals("putTape")) {
            numbers[2] = below(4);
        } else if (name.equals("exchangeTape")) {
            numbers[3] = below(4);
        } else if (name.equals("number")) {
            numbers[3] = 2 + below(35);
        }
    }

    private static int tape() {
        return below(25) == 0 ? EDGES[below(EDGES.length)] : below(4);
    }

    private static int number(Model model) {
        switch (below(4)) {
            case 0: return EDGES[below(EDGES.length)];
            case 1: return below(30);
            case 2: return below(256);
            default: return (int) (next() >>> 16);
        }
    }

    private static int below(int bound) {
        return (int) ((next() >>> 33) % bound);
    }

    private static long next() {
        state = state * 6364136223846793005L + 1442695040888963407L;
        return state;
    }
}

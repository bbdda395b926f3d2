import java.lang.reflect.InvocationTargetException;
import java.lang.reflect.Method;
import java.lang.reflect.Modifier;
import java.util.HashMap;
import java.util.Map;

/**
 * Runs of calls, written as lines. Calls of a line are parted by ';', and a call is
 * "name numbers = answer", "name numbers ! kind" for one that throws (index, argument or
 * state), or "name numbers" where the answer does not matter. Booleans are 1 and 0.
 */
final class Runs {
    private static final Map<String, Method> METHODS = methodsOf(Layerwright.class), MODEL_METHODS = methodsOf(Model.class);
    private static int wrong = 0;
    private static int done = 0;

    private Runs() {
    }

    private static Map<String, Method> methodsOf(Class<?> face) {
        Map<String, Method> methods = new HashMap<>();
        for (Method method : face.getDeclaredMethods()) {
            if (!Modifier.isPrivate(method.getModifiers())) methods.put(method.getName(), method);
        }
        return methods;
    }

    /** Runs the lines on a new object, and returns it. */
    static Layerwright run(String title, String... lines) {
        Layerwright object = new Layerwright();
        more(object, title, lines);
        return object;
    }

    /** Runs the lines on an object that is there already. */
    static void more(Layerwright object, String title, String... lines) {
        for (String line : lines) {
            for (String call : line.split(";")) {
                if (!call.isBlank()) check(object, title, call.trim());
            }
        }
    }

    private static void check(Layerwright object, String title, String text) {
        String[] words = text.split(" +");
        int end = 1;
        while (end < words.length && !words[end].equals("=") && !words[end].equals("!")) end++;
        int[] numbers = new int[end - 1];
        for (int i = 1; i < end; i++) numbers[i - 1] = Integer.parseInt(words[i]);
        boolean mayThrow = end < words.length && words[end].equals("!");
        String before = mayThrow ? Snapshot.of(object) : "";
        String answer = answerOf(object, words[0], numbers);
        done++;
        if (end < words.length) {
            same(title + ": " + text, answer, mayThrow ? "! " + words[end + 1] : words[end + 1]);
        } else if (answer.startsWith("!")) {
            fail(title + ": " + text + " answered " + answer);
        }
        if (mayThrow) same(title + ": " + text + " changes nothing", Snapshot.of(object), before);
    }

    /** Makes a call of the program or the model; the answer as a number, "! kind" for one of the three exceptions. */
    static String answerOf(Object object, String name, int... numbers) {
        Method method = (object instanceof Model ? MODEL_METHODS : METHODS).get(name);
        if (method == null || method.getParameterCount() != numbers.length) {
            throw new AssertionError("no such call: " + name + " with " + numbers.length + " numbers");
        }
        Class<?>[] types = method.getParameterTypes();
        Object[] arguments = new Object[numbers.length];
        for (int i = 0; i < numbers.length; i++) {
            if (types[i] == boolean.class) arguments[i] = numbers[i] != 0;
            else arguments[i] = numbers[i];
        }
        try {
            Object answer = method.invoke(object, arguments);
            if (answer == null) return "nothing";
            if (answer instanceof Boolean) return (Boolean) answer ? "1" : "0";
            return answer.toString();
        } catch (InvocationTargetException e) {
            return kindOf(e.getCause());
        } catch (IllegalAccessException e) {
            throw new AssertionError(e);
        }
    }

    /** The exact classes alone: what the machine throws bears other names. */
    private static String kindOf(Throwable thrown) {
        if (thrown.getClass() == IndexOutOfBoundsException.class && thrown.getMessage() == null) return "! index";
        if (thrown.getClass() == IllegalArgumentException.class) return "! argument";
        if (thrown.getClass() == IllegalStateException.class) return "! state";
        return "! " + thrown;
    }

    static void same(String what, String got, String due) {
        if (!got.equals(due)) fail(what + " answered " + got + ", due is " + due);
    }

    static void same(String what, long got, long due) {
        done++;
        if (got != due) fail(what + " answered " + got + ", due is " + due);
    }

    static void fail(String text) {
        wrong++;
        if (wrong <= 40) System.out.println(text);
    }

    /** Says how it went, and ends the program with exit code 1 if something was wrong. */
    static void end() {
        System.out.println(done + " calls, " + wrong + " wrong");
        if (wrong > 0) System.exit(1);
    }
}

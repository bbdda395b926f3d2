import java.io.IOException;
import java.lang.reflect.Constructor;
import java.lang.reflect.Field;
import java.lang.reflect.Method;
import java.lang.reflect.Modifier;
import java.nio.file.Files;
import java.nio.file.Path;
import java.util.Arrays;
import java.util.List;
import java.util.TreeSet;

/** The face of the class is the page's, and its source keeps to what can be seen of LANGUAGE.md. */
final class FaceTest {
    private static final String[] FACE = {
        "int tell(int, int, int, int, int) index argument state", "int draft(int, int, int, int, int) index argument state",
        "int publish(int) index state", "int remove(int) index", "int setLayer(int, int) index", "int lock(int, int) index",
        "int except(int, int, int) index argument", "int pass(int) argument", "int standing(int) index", "int value(int) index",
        "int set(int) index", "int setAnew(int) index", "int conflict()", "int policy(int, int, int) index argument state",
        "int proof(int) index", "int tainted()", "void setType(int, int, int, int, boolean, boolean) index argument state",
        "int generator(int) index state", "int key(int, int, int) index argument state", "int unkey(int, int) index",
        "int bind(int, int, int) index state", "int upgrade(int) index state", "int given(int, int) index", "int pending()",
        "int differing()", "int plan(int) index state", "int action(int, int) index", "boolean approve(int, int) index state",
        "boolean isStale(int) index", "boolean rebase(int) index state", "int apply(int) index state", "int step(int) argument state",
        "boolean isApplying()", "boolean isLocked()", "int serial()", "int entry(int) index", "int stored(int, int) index",
        "int real(int, int) index", "int resources()", "int change(int, int, int) index argument state", "boolean destroy(int) index",
        "int make(int) index state", "int read() state", "int move(int, int) index state", "int take(int, int) index state"};
    private static final String[] NOT_WANTED = {"->", "::", "try", "catch", "finally", "synchronized", "assert", "static {",
        "System.out", "Exact(", "Random", "Thread", "import java.io", "record ", "protected"};
    private static final int LONGEST_METHOD = 60, MOST_CLASSES = 12, MOST_PARAMETERS = 7;

    private FaceTest() {
    }

    public static void main(String[] args) throws IOException {
        face();
        source(Files.readAllLines(Path.of("src/main/java/Layerwright.java")));
        Runs.end();
    }

    private static void face() {
        TreeSet<String> due = new TreeSet<>(Arrays.asList(FACE)), found = new TreeSet<>(), inner = new TreeSet<>();
        for (Method method : Layerwright.class.getDeclaredMethods()) {
            if (method.isSynthetic()) continue;
            if (Modifier.isPublic(method.getModifiers())) found.add(signature(method));
            else if (Modifier.isPrivate(method.getModifiers())) inner.add(method.getName());
            else Runs.fail("neither public nor private: " + method);
        }
        Runs.same("the methods", found.toString(), due.toString());
        for (String line : due) {
            String name = line.substring(line.indexOf(' ') + 1, line.indexOf('('));
            if (inner.contains(name)) Runs.fail("a private method bears a public name: " + name);
        }
        for (Class<?> nested : Layerwright.class.getDeclaredClasses()) {
            members(nested, found.toString());
            Runs.same(nested + " is private and static", Modifier.isPrivate(nested.getModifiers()) && Modifier.isStatic(nested.getModifiers()) ? 1 : 0, 1);
            Runs.same(nested + " has some twenty fields at most", nested.getDeclaredFields().length <= 20 ? 1 : 0, 1);
        }
        TreeSet<String> constants = new TreeSet<>();
        for (Field field : Layerwright.class.getDeclaredFields()) {
            if (!Modifier.isPrivate(field.getModifiers())) constants.add(Modifier.toString(field.getModifiers()) + " " + field.getType() + " " + field.getName());
        }
        Runs.same("the constants", constants.toString(), "[public static final int CONFLICT, public static final int NONE]");
        Constructor<?>[] constructors = Layerwright.class.getDeclaredConstructors();
        Runs.same("the constructors", constructors.length, 1);
        Runs.same("the constructor", constructors[0].toString(), "public Layerwright()");
        Runs.same("the class", Modifier.toString(Layerwright.class.getModifiers()), "public final");
        Runs.same("few classes", 1 + Layerwright.class.getDeclaredClasses().length <= MOST_CLASSES ? 1 : 0, 1);
    }

    /** No method inside bears the name of one of the face or takes many parameters, and statics do not change. */
    private static void members(Class<?> nested, String face) {
        for (Method method : nested.getDeclaredMethods()) {
            if (method.isSynthetic()) continue;
            if (face.contains(" " + method.getName() + "(")) Runs.fail("a method inside bears a public name: " + method);
            if (method.getParameterCount() > MOST_PARAMETERS) Runs.fail("many parameters: " + method);
        }
        for (Field field : nested.getDeclaredFields()) {
            if (Modifier.isStatic(field.getModifiers()) && !Modifier.isFinal(field.getModifiers())) Runs.fail("not final: " + field);
        }
    }

    private static String signature(Method method) {
        StringBuilder text = new StringBuilder(method.getReturnType() + " " + method.getName() + "(");
        for (Class<?> type : method.getParameterTypes()) text.append(text.toString().endsWith("(") ? "" : ", ").append(type);
        text.append(")");
        List<Class<?>> thrown = Arrays.asList(method.getExceptionTypes());
        if (thrown.contains(IndexOutOfBoundsException.class)) text.append(" index");
        if (thrown.contains(IllegalArgumentException.class)) text.append(" argument");
        if (thrown.contains(IllegalStateException.class)) text.append(" state");
        return text.toString();
    }

    private static void source(List<String> lines) {
        int start = 0;
        for (int i = 0; i < lines.size(); i++) {
            String line = lines.get(i), code = line.replaceAll("//.*|/?\\*.*", "");
            for (String word : NOT_WANTED) {
                boolean isThere = word.matches("[a-z]+") ? code.matches(".*\\b" + word + "\\b.*") : code.contains(word);
                if (isThere) Runs.fail("line " + (i + 1) + " has " + word);
            }
            if (line.startsWith("import ")) Runs.same("line " + (i + 1), line, "import java.util.Arrays;");
            if (line.matches("( {4}| {8})[a-zA-Z].*\\).*\\{")) start = i;
            if (line.matches("( {4}| {8})\\}") && i - start > LONGEST_METHOD) Runs.fail("a long method ends on line " + (i + 1));
        }
    }
}

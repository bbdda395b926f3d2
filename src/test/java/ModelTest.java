import java.util.Arrays;
import java.util.Random;

/** The program and the model of the document, told the same: long random runs, answer by answer. */
final class ModelTest {
    private static final int STATEMENT_RUNS = 60, PLATFORM_RUNS = 200, CALLS = 512;

    /** The calls of a run on statements, the more frequent ones more than once. */
    private static final String[] STATEMENT_CALLS = {"tell", "tell", "tell", "draft", "draft", "publish", "remove", "setLayer", "lock",
        "except", "pass", "policy", "standing", "value", "set", "setAnew", "conflict", "proof", "tainted"};
    /** Those of a run on the rest; "round" stands for a plan that is made, approved and applied. */
    private static final String[] PLATFORM_CALLS = {"round", "round", "round", "round", "round", "round", "step", "step", "step", "step", "step", "step", "step",
        "setLayer", "setLayer", "setLayer", "tell", "remove", "pass", "pass", "generator", "key", "key", "key", "unkey", "bind", "bind", "bind", "upgrade",
        "plan", "plan", "approve", "rebase", "rebase", "apply", "apply", "change", "change", "change", "change", "destroy", "make", "read", "read", "read",
        "move", "move", "take", "take", "isStale", "given", "pending", "differing", "action", "lock", "except", "draft", "publish", "setType"};

    private final Random random;
    private final Layerwright object = new Layerwright();
    private final Model model = new Model();
    private final StringBuilder calls = new StringBuilder();
    private int fields, plans, done;
    private boolean isPlatform, isWrong;

    private ModelTest(int seed) {
        random = new Random(seed);
    }

    public static void main(String[] args) {
        for (int seed = 0; seed < STATEMENT_RUNS; seed++) new ModelTest(seed).runStatements();
        for (int seed = 0; seed < PLATFORM_RUNS; seed++) new ModelTest(1000 + seed).runPlatform();
        Runs.end();
    }

    private void runStatements() {
        fields = 2 + random.nextInt(4);
        while (done < CALLS && !isWrong) {
            String name = STATEMENT_CALLS[random.nextInt(STATEMENT_CALLS.length)];
            if (name.equals("remove") && random.nextInt(3) > 0) continue;
            call(name, numbersOf(name));
        }
    }

    private void runPlatform() {
        isPlatform = true;
        fields = 1 + random.nextInt(4);
        for (int type = 0; type < 3; type++) {
            call("setType", type, traits(), random.nextInt(4) > 0 ? 2 : traits(), traits(), random.nextInt(2), random.nextInt(2));
        }
        for (int file = 0; file < 3; file++) {
            for (int field = 0; field < fields; field++) call("tell", file, 4, field, random.nextInt(64), 0);
            call("setLayer", file, file);
        }
        for (int i = 0; i < 3; i++) {
            call("generator", random.nextInt(3));
            for (int key = 0; key < 4 - i; key++) call("key", i, random.nextInt(key + 1), key);
            for (int a = 0; a < 3; a++) call("bind", i, a, source(i));
        }
        while (done < CALLS && !isWrong) {
            String name = PLATFORM_CALLS[random.nextInt(PLATFORM_CALLS.length)];
            if (name.equals("round")) round();
            else call(name, numbersOf(name));
        }
    }

    private int traits() {
        int[] likely = {0, 0, 1, 2, 2, 3, 4, 5, 6, 7};
        return likely[random.nextInt(likely.length)];
    }

    private int source(int generator) {
        if (generator > 0 && random.nextInt(2) == 0) return 10 + random.nextInt(3 * generator);
        return random.nextInt(fields + 1) - 1;
    }

    private void round() {
        String plan = call("plan", random.nextInt(3));
        if (plan.startsWith("!")) return;
        int number = Integer.parseInt(plan);
        if (random.nextInt(6) == 0) return;
        for (int team = 0; team < 3; team++) call("approve", number, team);
        if (call("apply", number).startsWith("!")) return;
        for (int i = random.nextInt(20); i > 0 && object.isApplying() && !isWrong; i--) {
            call("step", random.nextInt(8) > 0 ? 0 : 1 + random.nextInt(2));
            if (random.nextInt(8) == 0) call("bind", numbersOf("bind"));
        }
    }

    private int name() {
        return 16 * random.nextInt(4) + random.nextInt(4);
    }

    private int[] numbersOf(String call) {
        switch (call) {
            case "tell": case "draft": return isPlatform && random.nextInt(3) > 0 ? numbers(random.nextInt(3), 4, random.nextInt(fields), random.nextInt(64), 0) : statement();
            case "publish": return numbers(random.nextInt(3));
            case "remove": case "standing": return numbers(random.nextInt(30));
            case "setLayer": return numbers(random.nextInt(6), random.nextInt(4));
            case "lock": return numbers(random.nextInt(10), random.nextInt(3) > 0 ? -1 : random.nextInt(4));
            case "except": return numbers(random.nextInt(6), random.nextInt(fields), 1 + random.nextInt(9));
            case "pass": return numbers(1 + random.nextInt(2));
            case "policy": return numbers(random.nextInt(fields), random.nextInt(32), 32 + random.nextInt(32));
            case "proof": return numbers(random.nextInt(8));
            case "value": case "set": case "setAnew": return numbers(random.nextInt(10));
            case "setType": return numbers(random.nextInt(3), traits(), traits(), traits(), random.nextInt(2), random.nextInt(2));
            case "key": return numbers(random.nextInt(4), random.nextInt(3), random.nextInt(5));
            case "unkey": return numbers(random.nextInt(4), random.nextInt(5));
            case "bind": {
                int generator = random.nextInt(4);
                return numbers(generator, random.nextInt(3), source(generator));
            }
            case "upgrade": return numbers(random.nextInt(12));
            case "given": return numbers(name(), random.nextInt(3));
            case "action": return numbers(random.nextInt(10), random.nextInt(6));
            case "approve": return numbers(random.nextInt(40), random.nextInt(3));
            case "rebase": case "isStale": case "apply": return numbers(random.nextInt(plans + 1));
            case "step": return numbers(random.nextInt(5) > 0 ? 0 : random.nextInt(3));
            case "change": return numbers(random.nextInt(object.resources() + 1), random.nextInt(3), random.nextInt(256));
            case "destroy": return numbers(random.nextInt(object.resources() + 1));
            case "move": return numbers(name(), name());
            case "take": return numbers(name(), random.nextInt(object.resources() + 1));
            case "conflict": case "tainted": case "pending": case "differing": case "read": return numbers();
            default: return numbers(random.nextInt(3));
        }
    }

    private static int[] numbers(int... numbers) {
        return numbers;
    }

    private int[] statement() {
        int[] likely = {0, 1, 1, 2, 3, 3, 4, 4, 4, 5, 5, 6, 6, 7, 7, 7, 8, 8, 9, 10, 11, 12, 12};
        int kind = likely[random.nextInt(likely.length)], place = random.nextInt(6), field = random.nextInt(fields), a = random.nextInt(12);
        switch (kind) {
            case 1: return numbers(place, kind, field, a, a + random.nextInt(30));
            case 2: return numbers(place, kind, field, a, random.nextInt(64));
            case 5: return numbers(place, kind, field, random.nextInt(fields), random.nextInt(9) - 4);
            case 6: return numbers(place, kind, field, random.nextInt(fields), 0);
            case 8: case 9: case 10: case 11: return numbers(place, random.nextInt(3) == 0 ? kind : 8, field, 0, 0);
            case 12: return numbers(place, kind, random.nextInt(3), 1 + random.nextInt(3), 0);
            default: return numbers(place, kind, field, a, 0);
        }
    }

    private String call(String name, int... numbers) {
        if (isWrong) return "!";
        done++;
        calls.append(name).append(' ').append(Arrays.toString(numbers)).append("; ");
        String answer = Runs.answerOf(object, name, numbers), due = Runs.answerOf(model, name, numbers);
        if (name.equals("plan") && !answer.startsWith("!")) plans++;
        same("", answer, due);
        if (done % 8 == 0) same("all that can be asked", stateOf(object), stateOf(model));
        return answer;
    }

    private String stateOf(Object asked) {
        StringBuilder text = new StringBuilder();
        for (int field = 0; field < 10; field++) text.append(Runs.answerOf(asked, "value", field)).append(' ');
        if (!isPlatform) {
            for (int statement = 0; statement < 30; statement++) text.append(Runs.answerOf(asked, "standing", statement)).append(' ');
            return text.append(Runs.answerOf(asked, "tainted")).toString();
        }
        for (String name : new String[] {"pending", "differing", "isApplying", "isLocked", "serial"}) {
            text.append(Runs.answerOf(asked, name)).append(' ');
        }
        for (int name = 0; name < 64; name++) {
            if (name % 16 > 4) continue;
            text.append(Runs.answerOf(asked, "entry", name)).append(' ');
            for (int a = 0; a < 3; a++) {
                text.append(Runs.answerOf(asked, "stored", name, a)).append(' ').append(Runs.answerOf(asked, "given", name, a)).append(' ');
            }
        }
        for (int resource = 0; resource < object.resources(); resource++) {
            for (int a = 0; a < 3; a++) text.append(Runs.answerOf(asked, "real", resource, a)).append(' ');
        }
        return text.toString();
    }

    private void same(String what, String answer, String due) {
        Runs.same("", 0, 0);
        if (answer.equals(due)) return;
        isWrong = true;
        Runs.fail(calls + what + " answered " + answer + ", due is " + due);
    }
}

import java.util.Random;
import java.util.TreeSet;

/** Long runs of random calls, and what holds of every one of them. */
final class RandomTest {
    /** A call: its name, how many numbers it takes, and the exceptions that the page lets it throw. */
    private static final String[] CALLS = {
        "tell 5 index argument state", "tell 5 index argument state", "draft 5 index argument state", "publish 1 index state", "remove 1 index",
        "setLayer 2 index", "lock 2 index", "except 3 index argument", "pass 1 argument", "standing 1 index",
        "value 1 index", "set 1 index", "setAnew 1 index", "conflict 0", "policy 3 index argument state",
        "proof 1 index", "tainted 0", "setType 6 index argument state", "generator 1 index state",
        "key 3 index argument state", "key 3 index argument state", "unkey 2 index", "bind 3 index state", "bind 3 index state", "upgrade 1 index state",
        "given 2 index", "pending 0", "differing 0", "plan 1 index state", "plan 1 index state", "action 2 index",
        "approve 2 index state", "approve 2 index state", "isStale 1 index", "rebase 1 index state",
        "apply 1 index state", "apply 1 index state", "step 1 argument state", "step 1 argument state", "isApplying 0", "isLocked 0", "serial 0",
        "entry 1 index", "stored 2 index", "real 2 index", "resources 0",
        "change 3 index argument state", "destroy 1 index", "make 1 index state", "read 0 state",
        "move 2 index state", "take 2 index state"};
    private static final String QUERIES = " standing value set setAnew conflict proof tainted given pending differing action"
            + " isStale isApplying isLocked serial entry stored real resources ";

    private RandomTest() {
    }

    public static void main(String[] args) {
        wildCalls();
        likelyCalls();
        leastConflicts();
        anyOrder();
        Runs.end();
    }

    /** Numbers of every size: the exceptions are those of the page, and they change nothing. */
    private static void wildCalls() {
        Random random = new Random(20261119);
        int[] numbers = {Integer.MIN_VALUE, -64, -3, -2, -1, 0, 0, 0, 1, 1, 2, 3, 4, 5, 6, 7, 8, 9, 10, 11, 12, 13, 15, 16, 17,
            29, 30, 31, 60, 63, 64, 255, 256, Integer.MAX_VALUE};
        for (int run = 0; run < 150; run++) {
            Layerwright object = new Layerwright();
            for (int i = 0; i < 512; i++) {
                String[] call = CALLS[random.nextInt(CALLS.length)].split(" ");
                int[] given = new int[Integer.parseInt(call[1])];
                for (int j = 0; j < given.length; j++) given[j] = numbers[random.nextInt(numbers.length)];
                check(object, call, given, i % 64 == 0);
            }
        }
    }

    /** Numbers that mostly fit, so that the runs go deep. */
    private static void likelyCalls() {
        Random random = new Random(46);
        for (int run = 0; run < 300; run++) {
            Layerwright object = new Layerwright();
            start(object, random);
            for (int i = 0; i < 440; i++) {
                String[] call = CALLS[random.nextInt(CALLS.length)].split(" ");
                check(object, call, likelyNumbers(object, call[0], random), i % 64 == 0);
                if (i % 8 == 0) properties(object);
            }
        }
    }

    private static void start(Layerwright object, Random random) {
        for (int type = 0; type < 3; type++) {
            object.setType(type, random.nextInt(8), random.nextInt(8) & 3, 2 * random.nextInt(2), random.nextBoolean(), random.nextBoolean());
        }
        for (int field = 0; field < 10; field++) {
            if (random.nextInt(4) > 0) object.tell(random.nextInt(6), 4 * random.nextInt(2), field, random.nextInt(64), 0);
        }
        for (int i = 0; i < 4; i++) {
            object.generator(random.nextInt(3));
            Runs.answerOf(object, "key", i, 0, random.nextInt(3));
            Runs.answerOf(object, "key", i, 0, random.nextInt(3));
            for (int a = 0; a < 3; a++) Runs.answerOf(object, "bind", i, a, random.nextInt(22) - 1);
        }
    }

    private static int[] likelyNumbers(Layerwright object, String name, Random random) {
        switch (name) {
            case "tell": case "draft": return statement(random);
            case "remove": case "standing": return new int[] {random.nextInt(30)};
            case "except": return new int[] {random.nextInt(6), random.nextInt(10), 1 + random.nextInt(5)};
            case "lock": return new int[] {random.nextInt(10), random.nextInt(5) - 1};
            case "policy": return new int[] {random.nextInt(10), random.nextInt(32), 32 + random.nextInt(32)};
            case "setType": return new int[] {random.nextInt(3), random.nextInt(8), random.nextInt(8), random.nextInt(8), random.nextInt(2), random.nextInt(2)};
            case "key": return new int[] {random.nextInt(4), random.nextInt(2), random.nextInt(4)};
            case "bind": return new int[] {random.nextInt(4), random.nextInt(3), random.nextInt(22) - 1};
            case "given": case "stored": return new int[] {16 * random.nextInt(4) + random.nextInt(4), random.nextInt(3)};
            case "entry": return new int[] {16 * random.nextInt(4) + random.nextInt(4)};
            case "action": return new int[] {random.nextInt(40), random.nextInt(8)};
            case "approve": return new int[] {random.nextInt(40), random.nextInt(3)};
            case "isStale": case "rebase": case "apply": return new int[] {random.nextInt(20)};
            case "step": return new int[] {Math.max(0, random.nextInt(8) - 5)};
            case "real": return new int[] {random.nextInt(20), random.nextInt(3)};
            case "change": return new int[] {random.nextInt(20), random.nextInt(3), random.nextInt(256)};
            case "destroy": return new int[] {random.nextInt(20)};
            case "move": return new int[] {16 * random.nextInt(4) + random.nextInt(4), 16 * random.nextInt(4) + random.nextInt(4)};
            case "take": return new int[] {16 * random.nextInt(4) + random.nextInt(4), random.nextInt(20)};
            case "pass": return new int[] {1 + random.nextInt(2)};
            case "setLayer": return new int[] {random.nextInt(6), random.nextInt(4)};
            case "unkey": return new int[] {random.nextInt(4), random.nextInt(2)};
            case "conflict": case "tainted": case "pending": case "differing": case "isApplying":
            case "isLocked": case "serial": case "resources": case "read": return new int[0];
            default: return new int[] {random.nextInt(3)};
        }
    }

    private static int[] statement(Random random) {
        int kind = random.nextInt(13), place = random.nextInt(6), field = random.nextInt(10);
        switch (kind) {
            case 0: return new int[] {place, random.nextInt(4) == 0 ? 0 : 4, field, random.nextInt(64), 0};
            case 1: return new int[] {place, kind, field, random.nextInt(20), 30 + random.nextInt(30)};
            case 2: return new int[] {place, kind, field, random.nextInt(64), random.nextInt(64)};
            case 3: case 4: case 7: return new int[] {place, kind, field, random.nextInt(64), 0};
            case 5: return new int[] {place, kind, field, random.nextInt(10), random.nextInt(7) - 3};
            case 6: return new int[] {place, kind, field, random.nextInt(10), 0};
            case 12: return new int[] {place, kind, random.nextInt(3), 1 + random.nextInt(3), 0};
            case 9: case 10: return new int[] {place, random.nextInt(4) == 0 ? kind : 8, field, 0, 0};
            default: return new int[] {place, kind, field, 0, 0};
        }
    }

    private static void check(Layerwright object, String[] call, int[] given, boolean isLookedAt) {
        boolean isQuery = QUERIES.contains(" " + call[0] + " ");
        String before = isLookedAt ? Snapshot.of(object) : "";
        String answer = Runs.answerOf(object, call[0], given);
        String text = call[0] + " " + java.util.Arrays.toString(given);
        if (answer.startsWith("!")) {
            boolean mayThrow = false;
            for (int i = 2; i < call.length; i++) mayThrow |= answer.equals("! " + call[i]);
            if (!mayThrow) Runs.fail(text + " answered " + answer);
        }
        if (isLookedAt && (isQuery || answer.startsWith("!"))) {
            Runs.same(text + " changes nothing", Snapshot.of(object), before);
        }
    }

    private static void properties(Layerwright object) {
        for (int field = 0; field < 10; field++) {
            Runs.same("setAnew is set", object.setAnew(field), object.set(field));
            if (object.set(field) / 10000 == 1 && object.conflict() == 0) {
                Runs.same("one value in the set", object.value(field), object.set(field) % 100);
            }
        }
        Runs.same("a conflict is told by value and conflict", object.conflict() != 0 ? 1 : 0, object.value(0) == -2 ? 1 : 0);
        Runs.same("pending and differing", object.pending() < 0 ? 1 : 0, object.differing() < 0 ? 1 : 0);
        if (object.isApplying()) Runs.same("an apply locks", object.isLocked() ? 1 : 0, 1);
        String made = Runs.answerOf(object, "plan", 0);
        if (!made.startsWith("!")) planProperties(object, Integer.parseInt(made));
    }

    private static void planProperties(Layerwright object, int plan) {
        TreeSet<Integer> names = new TreeSet<>();
        int pending = object.pending();
        for (int i = 0; i < pending; i++) names.add(object.action(plan, i) % 100);
        Runs.same("differing counts the names with actions", object.differing(), names.size());
        Runs.same("the plan has no more actions", Runs.answerOf(object, "action", plan, pending), "! index");
        Runs.same("a new plan is not stale", object.isStale(plan) ? 1 : 0, 0);
    }

    /** The least conflict against fresh objects that are told each few of the statements alone. */
    private static void leastConflicts() {
        Random random = new Random(3);
        for (int run = 0; run < 150; run++) {
            int[][] told = new int[10][];
            Layerwright object = new Layerwright();
            for (int i = 0; i < told.length; i++) {
                told[i] = narrowing(random);
                object.tell(told[i][0], told[i][1], told[i][2], told[i][3], told[i][4]);
            }
            int due = object.value(0) == -2 ? leastSet(told) : 0;
            Runs.same("the least conflict of run " + run, object.conflict(), due);
        }
    }

    private static int[] narrowing(Random random) {
        int field = random.nextInt(3), a = random.nextInt(64);
        switch (random.nextInt(6)) {
            case 0: return new int[] {0, 0, field, a, 0};
            case 1: return new int[] {0, 1, field, a, Math.min(63, a + random.nextInt(40))};
            case 2: return new int[] {0, 2, field, a, random.nextInt(64)};
            case 3: return new int[] {0, 3, field, a, 0};
            case 4: return new int[] {0, 5, field, (field + 1 + random.nextInt(2)) % 3, random.nextInt(40) - 20};
            default: return new int[] {0, 6, field, (field + 1 + random.nextInt(2)) % 3, 0};
        }
    }

    private static int leastSet(int[][] told) {
        int best = -1;
        for (int size = 3; size >= 1; size--) {
            for (int set = (1 << told.length) - 1; set > 0; set--) {
                if (Integer.bitCount(set) == size && clashes(told, set)) best = set;
            }
        }
        return best;
    }

    private static boolean clashes(int[][] told, int set) {
        Layerwright object = new Layerwright();
        for (int i = 0; i < told.length; i++) {
            if ((set >> i & 1) != 0) object.tell(told[i][0], told[i][1], told[i][2], told[i][3], told[i][4]);
        }
        return object.value(0) == -2;
    }

    /** The same statements of several files, told in another order, come to the same. */
    private static void anyOrder() {
        Random random = new Random(7);
        for (int run = 0; run < 200; run++) {
            Layerwright object = new Layerwright(), other = new Layerwright();
            int[][] told = new int[12][];
            for (int i = 0; i < told.length; i++) told[i] = random.nextInt(3) == 0 ? new int[] {0, 4, random.nextInt(3), random.nextInt(64), 0} : narrowing(random);
            for (int i = 0; i < told.length; i++) {
                int file = random.nextInt(6);
                told[i][0] = file;
                object.tell(file, told[i][1], told[i][2], told[i][3], told[i][4]);
            }
            for (int i = told.length - 1; i >= 0; i--) other.tell(told[i][0], told[i][1], told[i][2], told[i][3], told[i][4]);
            for (int field = 0; field < 3; field++) {
                Runs.same("set in any order", object.set(field), other.set(field));
                Runs.same("value in any order", object.value(field), other.value(field));
            }
        }
    }
}

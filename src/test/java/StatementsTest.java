/** Promises 1 to 9: a new object, tell, draft, publish, remove, setLayer, lock, except, pass. */
final class StatementsTest {
    private StatementsTest() {
    }

    public static void main(String[] args) {
        newObject();
        tellNumbers();
        tellWrongInputs();
        tellNumberRanges();
        thirtyStatements();
        draft();
        publish();
        imports();
        remove();
        setLayer();
        lock();
        except();
        pass();
        Runs.end();
    }

    private static void newObject() {
        Runs.run("promise 1", "value 0 = -1; value 9 = -1; set 0 = 640063; set 9 = 640063; setAnew 9 = 640063",
                "conflict = 0; tainted = 0; standing 0 ! index; proof 0 ! index",
                "pending = 0; differing = 0; isApplying = 0; isLocked = 0; serial = 0; resources = 0",
                "entry 0 ! index; given 0 0 ! index; real 0 0 ! index; isStale 0 ! index",
                "lock 0 -1 = -1; lock 9 -1 = -1; setLayer 0 0 = 0; setLayer 5 0 = 0",
                "plan 0 = 0; action 0 0 ! index; generator 2 = 0; pass 1 = 1");
        Runs.same("promise 1: NONE", Layerwright.NONE, -1);
        Runs.same("promise 1: CONFLICT", Layerwright.CONFLICT, -2);
    }

    private static void tellNumbers() {
        Runs.run("promise 2, numbers", "tell 0 0 0 5 0 = 0; tell 5 1 9 0 63 = 1; draft 0 3 1 2 0 = 2; tell 5 3 9 7 0 = 3",
                "remove 1; tell 2 0 3 4 0 = 4; value 0 = 5; value 3 = 4; set 9 = 630063; set 1 = 640063");
    }

    private static void tellWrongInputs() {
        Runs.run("promise 2, wrong inputs",
                "tell -1 0 0 0 0 ! index; tell 6 0 0 0 0 ! index; tell 0 0 -1 0 0 ! index; tell 0 0 10 0 0 ! index",
                "tell 0 12 -1 1 0 ! index; tell 0 12 3 1 0 ! index; tell 0 12 2 1 0 = 0",
                "tell 0 5 0 -1 0 ! index; tell 0 5 0 10 0 ! index; tell 0 6 0 -1 0 ! index; tell 0 6 0 10 0 ! index",
                "tell 0 -1 0 0 0 ! argument; tell 0 13 0 0 0 ! argument; tell 0 2147483647 0 0 0 ! argument",
                "tell -1 13 0 0 0 ! index; tell 0 13 10 0 0 ! index; tell 0 5 10 0 64 ! index; tell 0 5 0 10 64 ! index",
                "tell 6 0 0 64 0 ! index; tell 0 -2147483648 10 0 0 ! index; tell 0 9 10 0 0 ! index",
                "tell 0 0 0 5 0 = 1");
    }

    private static void tellNumberRanges() {
        for (int kind = 0; kind <= 12; kind++) {
            Layerwright object = new Layerwright();
            int number = 0;
            for (int a : new int[] {-64, -1, 0, 1, 3, 4, 9, 10, 63, 64}) {
                for (int b : new int[] {-64, -63, -1, 0, 1, 3, 62, 63, 64}) {
                    if (number == 30) {
                        object = new Layerwright();
                        number = 0;
                    }
                    String due = dueOf(kind, a, b);
                    if (due.isEmpty()) {
                        due = "= " + number;
                        number++;
                    }
                    Runs.more(object, "promise 2, ranges", "tell 0 " + kind + " 0 " + a + " " + b + " " + due);
                }
            }
        }
    }

    /** What the page says of a and b, kind by kind; "" for a statement that can be told. */
    private static String dueOf(int kind, int a, int b) {
        boolean isJoining = kind == 5 || kind == 6;
        if (isJoining && (a < 0 || a > 9)) return "! index";
        boolean fits;
        switch (kind) {
            case 1: fits = a >= 0 && a <= b && b <= 63; break;
            case 2: fits = a >= 0 && a <= 63 && b >= 0 && b <= 63; break;
            case 5: fits = b >= -63 && b <= 63; break;
            case 6: fits = b == 0; break;
            case 12: fits = a >= 1 && a <= 3 && b == 0; break;
            case 0: case 3: case 4: case 7: fits = a >= 0 && a <= 63 && b == 0; break;
            default: fits = a == 0 && b == 0; break;
        }
        return fits ? "" : "! argument";
    }

    private static void thirtyStatements() {
        Layerwright object = new Layerwright();
        for (int i = 0; i < 28; i++) Runs.more(object, "thirty", "tell " + i % 6 + " 4 " + i % 10 + " 1 0 = " + i);
        Runs.more(object, "thirty", "remove 0 = 27; draft 0 0 0 0 0 = 28; publish 0 = 1; draft 1 0 0 0 0 = 29",
                "tell 0 0 0 0 0 ! state; draft 0 0 0 0 0 ! state; remove 1 = 26; tell 0 0 0 0 0 ! state",
                "tell 0 0 0 64 0 ! argument; tell 6 0 0 0 0 ! index; draft 0 13 0 0 0 ! argument",
                "draft 3 0 0 0 0 ! index; standing 29 = -1; standing 30 ! index");
    }

    private static void draft() {
        Runs.run("promise 3", "draft -1 0 0 0 0 ! index; draft 3 0 0 0 0 ! index; draft 0 0 10 0 0 ! index",
                "draft 0 12 3 1 0 ! index; draft 0 5 0 10 0 ! index; draft 3 13 0 0 0 ! index",
                "draft 0 13 0 0 0 ! argument; draft 0 0 0 64 0 ! argument; draft 0 1 0 5 4 ! argument",
                "draft 0 12 0 4 0 ! argument; draft 0 5 0 1 -64 ! argument",
                "draft 2 0 0 5 0 = 0; tell 0 12 2 1 0 = 1; value 0 = -1; standing 0 = -1",
                "publish 2 = 1; value 0 = 5; standing 0 = 0",
                "draft 2 0 1 6 0 = 2; value 1 = -1; standing 2 = -1; value 0 = 5",
                "publish 2 = 2; value 1 = -1; value 0 = 5; tell 0 12 2 2 0 = 3; value 1 = 6; value 0 = -1");
        Runs.run("promise 3, after three versions", "publish 0 = 1; publish 0 = 2; publish 0 = 3; draft 0 0 0 1 0 = 0",
                "publish 0 ! state; standing 0 = -1; tell 0 12 0 3 0 = 1; value 0 = -1");
    }

    private static void publish() {
        Runs.run("promise 4", "publish -1 ! index; publish 3 ! index; publish 2 = 1; publish 2 = 2; publish 0 = 1",
                "publish 2 = 3; publish 2 ! state; publish 2 ! state; publish 0 = 2; publish 1 = 1");
        Runs.run("promise 4, the next draft is empty", "tell 0 12 0 2 0; draft 0 0 0 5 0 = 1; publish 0 = 1; value 0 = 5",
                "publish 0 = 2; value 0 = -1; standing 1 = -1; draft 0 0 0 6 0; publish 0 = 3; value 0 = -1");
        Runs.run("promise 4, one draft is published alone", "tell 0 12 0 1 0; tell 0 12 1 1 0; draft 0 0 0 1 0; draft 1 0 1 2 0",
                "publish 1 = 1; value 0 = -1; value 1 = 2; publish 0 = 1; value 0 = 1");
    }

    private static void imports() {
        Runs.run("imports, the greatest version that is wanted", "draft 0 0 0 1 0; publish 0; draft 0 0 0 2 0; publish 0",
                "draft 0 0 0 3 0; publish 0; tell 0 12 0 1 0 = 3; value 0 = 1; tell 1 12 0 2 0 = 4; value 0 = 2",
                "standing 0 = -1; standing 1 = 0; standing 2 = -1; tell 2 12 0 3 0 = 5; value 0 = 3; remove 5 = 3; value 0 = 2",
                "remove 4 = 2; value 0 = 1");
        Runs.run("imports, the latest one in place of one that is not published", "tell 0 12 0 3 0 = 0; draft 0 0 0 1 0 = 1",
                "value 0 = -1; publish 0; value 0 = 1; draft 0 0 0 2 0 = 2; publish 0; value 0 = 2; standing 1 = -1",
                "publish 0; value 0 = -1; standing 2 = -1");
        Runs.run("imports of versions", "draft 0 12 1 1 0 = 0; publish 0; draft 1 12 2 1 0 = 1; publish 1; draft 2 0 0 7 0 = 2",
                "publish 2; value 0 = -1; standing 0 = -1; tell 5 12 0 1 0 = 3; value 0 = 7; standing 0 = 0; standing 1 = 0");
        Runs.run("imports of a version that is wanted and not the greatest", "draft 0 12 1 1 0 = 0; publish 0; publish 0",
                "draft 1 0 3 9 0 = 1; publish 1; tell 0 12 0 1 0 = 2; value 3 = 9; tell 0 12 0 2 0 = 3; value 3 = 9",
                "standing 0 = -1; remove 2 = 1; value 3 = -1");
        Runs.run("imports of a draft and of versions not wanted", "draft 0 12 1 1 0 = 0; draft 1 0 3 9 0; publish 1",
                "tell 0 12 0 1 0; value 3 = -1; publish 0; value 3 = 9; publish 0; value 3 = 9; tell 0 12 0 2 0; value 3 = 9");
        Runs.run("imports in a ring", "draft 0 12 1 1 0; draft 1 12 0 2 0; draft 0 0 0 4 0; publish 0; publish 1",
                "draft 0 0 0 8 0; publish 0; tell 0 12 0 1 0; value 0 = 8; standing 2 = -1");
        Runs.run("imports are not guarded", "tell 0 7 0 5 0 = 0; tell 0 12 0 1 0 = 1; draft 0 0 1 4 0 = 2; publish 0; value 1 = 4");
    }

    private static void remove() {
        Runs.run("promise 5", "remove 0 ! index; remove -1 ! index; tell 0 0 0 5 0 = 0; tell 1 0 1 6 0 = 1; tell 1 3 1 6 0 = 2",
                "remove 3 ! index; conflict = 6; remove 2 = 2; remove 2 ! index; value 1 = 6; standing 2 = -1; remove 0 = 1",
                "value 0 = -1; remove 1 = 0; value 1 = -1; tell 0 0 0 5 0 = 3; remove 3 = 0");
        Runs.run("promise 5, packages", "draft 0 0 0 5 0 = 0; remove 0 ! index; publish 0; remove 0 ! index; tell 0 12 0 1 0 = 1",
                "remove 0 ! index; tell 0 3 0 7 0 = 2; remove 2 = 2; draft 0 0 1 1 0 = 3; draft 0 0 2 1 0 = 4; publish 0",
                "tell 0 3 0 7 0 = 5; remove 5 = 2; tell 0 12 0 2 0 = 6; tell 0 3 0 7 0 = 7; remove 7 = 4; value 1 = 1; value 0 = -1");
    }

    private static void setLayer() {
        Runs.run("promise 6", "setLayer -1 0 ! index; setLayer 6 0 ! index; setLayer 0 -1 ! index; setLayer 0 4 ! index",
                "setLayer 0 3 = 0; setLayer 0 2 = 3; setLayer 5 1 = 0; setLayer 5 1 = 1; setLayer 0 0 = 2");
        Runs.run("promise 6, what it decides", "tell 0 4 0 1 0; tell 1 4 0 2 0; value 0 = -1; setLayer 1 1; value 0 = 2",
                "setLayer 0 2; value 0 = 1; setLayer 1 2; value 0 = -1; lock 3 3; tell 2 0 3 4 0 = 2; standing 2 = 3",
                "setLayer 2 3; standing 2 = 0; value 3 = 4");
    }

    private static void lock() {
        Runs.run("promise 7", "lock -1 0 ! index; lock 10 0 ! index; lock 0 -2 ! index; lock 0 4 ! index; lock 0 3 = -1",
                "lock 0 0 = 3; lock 0 -1 = 0; lock 0 -1 = -1; lock 9 1 = -1; lock 9 1 = 1");
        Runs.run("promise 7, who is locked out", "tell 0 0 0 5 0 = 0; tell 1 4 0 5 0 = 1; draft 0 3 0 6 0 = 2; publish 0; tell 0 12 0 1 0 = 3",
                "lock 0 0; standing 0 = 0; standing 1 = 0; standing 2 = 3; lock 0 2; standing 0 = 3; standing 1 = 0; standing 2 = 3",
                "value 0 = 5; set 0 = 640063; lock 0 -1; standing 0 = 0; standing 2 = 0; set 0 = 10505");
        Runs.run("promise 7, the field f alone", "tell 0 5 0 1 0 = 0; tell 0 6 2 1 0 = 1; lock 1 3; standing 0 = 0; standing 1 = 0",
                "lock 0 3; standing 0 = 3; standing 1 = 0; lock 2 3; standing 1 = 3");
        Runs.run("promise 7, kinds that are never at fault", "tell 0 7 0 1 0 = 0; tell 0 8 0 0 0 = 1; tell 0 10 0 0 0 = 2; tell 0 11 0 0 0 = 3",
                "lock 0 3; standing 0 = 0; standing 1 = 0; standing 2 = 0; standing 3 = 0");
    }

    private static void except() {
        Runs.run("promise 8", "except -1 0 1 ! index; except 6 0 1 ! index; except 0 -1 1 ! index; except 0 10 1 ! index",
                "except 6 0 0 ! index; except 0 0 0 ! argument; except 0 0 31 ! argument; except 0 0 -1 ! argument",
                "except 0 0 1 = 1; except 5 9 30 = 30; pass 4; except 0 0 30 = 34; except 0 0 1 = 5");
        Runs.run("promise 8, when it lapses", "tell 0 0 0 5 0 = 0; lock 0 1; standing 0 = 3; except 0 0 3 = 3; standing 0 = 0; pass 2",
                "standing 0 = 0; value 0 = 5; pass 1; standing 0 = 3; value 0 = -1; except 0 0 30 = 33; standing 0 = 0",
                "except 0 0 1 = 4; pass 1; standing 0 = 3");
        Runs.run("promise 8, one file and one field", "tell 0 0 0 5 0 = 0; tell 1 0 0 5 0 = 1; tell 0 0 1 5 0 = 2; lock 0 1; lock 1 1",
                "except 0 0 9; standing 0 = 0; standing 1 = 3; standing 2 = 3; except 0 1 9; standing 2 = 0; lock 0 2; standing 0 = 0");
        Runs.run("promise 8, made before the lock", "except 5 9 2; tell 5 0 9 1 0 = 0; lock 9 3; standing 0 = 0; pass 2; standing 0 = 3");
        Runs.run("promise 8, not to packages", "draft 0 0 0 5 0 = 0; publish 0; tell 0 12 0 1 0; lock 0 0; except 0 0 9; standing 0 = 3");
    }

    private static void pass() {
        Runs.run("promise 9", "pass 0 ! argument; pass 31 ! argument; pass -1 ! argument; pass 1 = 1; pass 30 = 31; pass 29 = 60",
                "pass 0 ! argument; pass 1 = 61; except 0 0 1 = 62");
    }
}

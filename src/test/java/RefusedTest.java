/** Refused calls: IndexOutOfBoundsException goes first, then IllegalArgumentException, and nothing is changed. */
final class RefusedTest {
    private RefusedTest() {
    }

    public static void main(String[] args) {
        statements();
        packagesAndDays();
        policies();
        types();
        generators();
        plans();
        applying();
        world();
        entries();
        Runs.end();
    }

    private static void statements() {
        String[] wrong = {"6 0 0 0 0 ! index", "0 0 10 0 0 ! index", "0 5 0 10 0 ! index", "0 6 0 -1 0 ! index", "0 12 3 1 0 ! index", "6 13 0 0 0 ! index", "0 13 10 0 0 ! index",
            "0 0 10 64 0 ! index", "0 0 10 0 1 ! index", "0 5 0 10 64 ! index", "0 5 10 0 64 ! index", "0 6 0 10 1 ! index", "0 12 3 4 0 ! index", "-1 -1 -1 -1 -1 ! index",
            "0 13 0 0 0 ! argument", "0 -1 0 0 0 ! argument", "0 0 0 64 0 ! argument", "0 0 0 0 1 ! argument", "0 1 0 5 4 ! argument", "0 5 0 1 64 ! argument", "0 12 0 4 0 ! argument", "0 12 0 1 1 ! argument"};
        for (String call : new String[] {"tell ", "draft "}) {
            Layerwright object = new Layerwright();
            for (String numbers : wrong) Runs.more(object, call + "with room", call + numbers);
            for (int i = 0; i < 30; i++) Runs.more(object, call + "with room", call + "0 8 0 0 0 = " + i);
            for (String numbers : wrong) Runs.more(object, call + "without room", call + numbers);
            Runs.more(object, call + "without room", call + "0 8 0 0 0 ! state; " + call + "2 12 2 3 0 ! state; " + call + "2 5 9 9 -63 ! state");
        }
        Runs.run("remove", "tell 0 0 0 5 0; draft 0 0 1 5 0; publish 0; tell 0 12 0 1 0; remove 1 ! index; remove 3 ! index; remove -1 ! index; value 0 = 5; value 1 = 5; remove 0 = 2; remove 0 ! index; value 1 = 5");
    }

    private static void packagesAndDays() {
        Runs.run("publish", "draft 0 0 0 5 0; publish 3 ! index; publish -1 ! index; publish 0 = 1; publish 0 = 2; publish 0 = 3; publish 0 ! state; publish 3 ! index; publish 1 = 1");
        Runs.run("setLayer and lock", "setLayer 6 4 ! index; setLayer 0 4 ! index; setLayer 6 1 ! index; setLayer 0 -1 ! index; setLayer 0 0 = 0; lock 10 4 ! index; lock 0 4 ! index; lock 10 0 ! index; lock 0 -2 ! index; lock 0 -1 = -1");
        Runs.run("except", "lock 0 1; tell 0 0 0 5 0; except 0 0 31 ! argument; except 0 0 0 ! argument; except 6 0 31 ! index; except 0 10 0 ! index; except 6 0 1 ! index; except 0 10 1 ! index; standing 0 = 3",
                "except 0 0 2 = 2; except 0 0 31 ! argument; pass 1; standing 0 = 0; pass 1; standing 0 = 3");
        Runs.run("pass", "pass 31 ! argument; pass 0 ! argument; pass 1 = 1; pass -2147483648 ! argument; pass 2147483647 ! argument; pass 1 = 2");
        Runs.run("what is asked", "standing 0 ! index; value 10 ! index; set 10 ! index; setAnew 10 ! index; proof 0 ! index; entry 0 ! index; stored 0 0 ! index; real 0 0 ! index; given 0 0 ! index; isStale 0 ! index; action 0 0 ! index");
    }

    private static void policies() {
        Runs.run("policy", "policy 10 5 4 ! index; policy 10 0 0 ! index; policy 0 5 4 ! argument; policy 0 0 0 = 0; policy 0 64 64 ! argument; policy 1 0 1 = 1; policy 0 0 0; policy 0 0 0; policy 0 0 0; policy 0 0 0; policy 0 0 0; policy 0 0 0 = 7",
                "policy 0 0 0 ! state; policy 0 5 4 ! argument; policy 0 -1 0 ! argument; policy 0 0 64 ! argument; policy 10 0 0 ! index; policy 10 5 4 ! index; proof 1 = 2; proof 7 = 1; proof 8 ! index");
    }

    private static void types() {
        Runs.run("setType", "setType 0 2 0 0 1 1; setType 3 8 0 0 0 0 ! index; setType -1 0 0 0 0 0 ! index; setType 0 8 0 0 0 0 ! argument; generator 0; setType 0 0 0 0 0 0 ! state; setType 0 0 8 0 0 0 ! argument; setType 0 0 0 -1 0 0 ! argument",
                "setType 3 0 0 0 0 0 ! index; setType 3 0 8 0 0 0 ! index; bind 0 0 0 ! state; key 0 0 3; plan 0; approve 0 1; apply 0; step 1; plan 0; action 1 1 = 403; change 0 1 9; read = 1; entry 3 = 21");
        Runs.run("upgrade", "upgrade 3 ! index; upgrade 0; upgrade 0; upgrade 0 ! state; upgrade 3 ! index; serial = 2; generator 0; key 0 0 3; plan 0; approve 0 1; apply 0; upgrade 1 ! state; upgrade -1 ! index; step 0; serial = 3; upgrade 1 = 1");
        Runs.run("make", "make 3 ! index; make 0 = 0; make -1 ! index; resources = 1; setType 1 0 0 0 0 0");
    }

    private static void generators() {
        Runs.run("generator", "generator 3 ! index; generator 0; generator 0; generator 0; generator 0 = 3; generator 0 ! state; generator 3 ! index; generator -1 ! index; entry 63 = -1; entry 64 ! index");
        Runs.run("key", "key 0 0 16 ! index; generator 0; key 1 0 16 ! index; key 0 1 16 ! index; key 0 -1 0 ! index; key 0 0 16 ! argument; key 0 0 -1 ! argument; key 0 0 5 = 1; key 0 0 5 ! state; key 0 2 5 ! index; key 1 0 5 ! index; key 0 1 16 ! argument",
                "key 0 0 0; key 0 0 1; key 0 0 2; key 0 0 3; key 0 0 4; key 0 0 6; key 0 0 7 = 8; key 0 0 8 ! state; key 0 0 7 ! state; key 0 0 16 ! argument; key 0 9 8 ! index; key 0 9 16 ! index; key 1 0 16 ! index; key 0 -1 8 ! index",
                "unkey 0 8 ! index; unkey 0 -1 ! index; unkey 1 0 ! index; unkey 0 7 = 5; unkey 0 6 = 0; unkey 0 5 = 1; unkey 0 4 = 2; unkey 0 3 = 3; unkey 0 2 = 4; unkey 0 1 = 6; unkey 0 0 = 7; unkey 0 0 ! index");
        Runs.run("bind", "setType 0 2 0 0 0 0; generator 0; generator 1; bind 0 0 10 ! index; bind 0 0 -2 ! index; bind 0 3 0 ! index; bind 2 0 0 ! index; bind 0 0 0 ! state; bind 0 1 10 ! index; bind 1 0 4 = -1; bind 1 0 13 ! index; bind 1 0 11 ! state; bind 1 0 12 ! state; bind 1 3 11 ! index; bind 1 0 -1 = 4",
                "bind 0 0 -1 ! state; bind 0 1 -1 = -1");
    }

    private static void plans() {
        Runs.run("plan", "generator 0; key 0 0 3; bind 0 0 0; plan 3 ! index; plan -1 ! index; plan 0 ! state; tell 0 0 0 5 0; plan 0 = 0; plan 3 ! index; plan 1 = 1; action 2 0 ! index; action 0 1 ! index; action 0 -1 ! index");
        Runs.run("approve", "generator 0; key 0 0 3; plan 0; approve 0 0 ! state; approve 0 3 ! index; approve 1 0 ! index; approve -1 3 ! index; apply 0 ! state; approve 0 1 = 1");
        Runs.run("rebase", "generator 0; key 0 0 3; plan 0; approve 0 1; rebase 1 ! index; rebase -1 ! index; upgrade 1; isStale 0 = 1; rebase 1 ! index; isStale 0 = 1; rebase 0 = 1; apply 0; rebase 0 ! state; rebase 1 ! index; pass 3; upgrade 1; rebase 0 ! state; isStale 0 = 1");
    }

    private static void applying() {
        Runs.run("apply", "generator 0; key 0 0 3; plan 0; apply 1 ! index; apply 0 ! state; approve 0 1; upgrade 1; apply 0 ! state; apply -1 ! index; rebase 0 = 1; unkey 0 0; apply 0 ! state; rebase 0 = 0; key 0 0 3; apply 0 = 1; apply 1 ! index; apply 0 ! state; step 0 = 103");
        Runs.run("step", "step 3 ! argument; step 0 ! state; generator 0; key 0 0 3; key 0 0 4; plan 0; approve 0 1; apply 0; step 3 ! argument; step -1 ! argument; step 0 = 103; step 3 ! argument; step 0 = 104; step 0 ! state; step 3 ! argument; step -1 ! argument");
        Runs.run("the day of the lock", "generator 0; key 0 0 3; plan 0; approve 0 1; apply 0; pass 31 ! argument; isLocked = 1; apply 0 ! state; pass 2; isLocked = 1; pass 0 ! argument; isLocked = 1; pass 1; isLocked = 0");
    }

    private static void world() {
        Runs.run("change", "change 0 0 256 ! index; make 0; change 0 3 256 ! index; change 1 0 -1 ! index; change 0 0 256 ! argument; change 0 0 -1 ! argument; real 0 0 = 0; destroy 0; change 0 0 1 ! state; change 0 0 256 ! argument; change 0 3 1 ! index; change 1 0 1 ! index; change 1 3 256 ! index");
        Runs.run("destroy", "destroy 0 ! index; make 0; destroy 1 ! index; destroy -1 ! index; real 0 0 = 0; destroy 0 = 1");
        Layerwright object = new Layerwright();
        for (int i = 0; i < 60; i++) Runs.more(object, "make, without room", "make 0 = " + i);
        Runs.more(object, "make, without room", "make 0 ! state; make 2 ! state; make 3 ! index; make -1 ! index; resources = 60; setType 2 0 0 0 0 0");
    }

    private static void entries() {
        Runs.run("read", "generator 0; make 0; take 5 0; change 0 0 9; key 0 0 3; plan 0; approve 0 1; apply 0; read ! state; stored 5 0 = 0; serial = 1; step 2; destroy 0; read ! state; entry 5 = 0; pass 3; read = 100");
        Runs.run("move", "generator 0; generator 1; make 0; move 3 32 ! index; move 32 3 ! index; move 3 4 ! state; take 3 0; move 3 16 ! state; move 3 3 ! state; move 4 3 ! state; move 3 32 ! index; move -1 3 ! index; entry 3 = 0; serial = 1",
                "key 0 0 4; plan 0; approve 0 1; apply 0; move 3 5 ! state; move 3 32 ! index; move 32 -1 ! index; step 2; move 3 5 ! state; pass 3; move 3 5 = 2");
        Runs.run("take", "generator 0; generator 1; make 0; make 1; take 32 0 ! index; take 3 2 ! index; take 3 -1 ! index; take 3 1 ! state; take 16 0 ! state; take 3 0 = 1; take 3 0 ! state; take 4 0 ! state; take 3 2 ! index; take 32 0 ! index; destroy 1; take 16 1 ! state; serial = 1",
                "make 0; key 0 0 4; plan 0; approve 0 1; apply 0; take 5 2 ! state; take 5 3 ! index; take 32 2 ! index; step 2 = 104; take 5 2 ! state; pass 3; take 5 2 = 2");
    }
}

/** Promises 25 to 31: pending, differing, plan, action, approve, isStale, rebase. */
final class PlansTest {
    private PlansTest() {
    }

    public static void main(String[] args) {
        whatIsPending();
        noPlan();
        replaced();
        dependents();
        adopted();
        order();
        differing();
        plan();
        approve();
        isStale();
        rebase();
        Runs.end();
    }

    private static void whatIsPending() {
        Runs.run("promise 25", "pending = 0; generator 0; pending = 0; key 0 0 3; pending = 1; key 0 0 4; pending = 2; make 0; take 3 0; pending = 1; unkey 0 1; pending = 2; take 3 0 ! state",
                "unkey 0 0; pending = 1; destroy 0; pending = 1; read = 100; pending = 0");
        Runs.run("promise 25, changed", "tell 0 0 0 5 0; generator 0; key 0 0 3; make 0; take 3 0; pending = 0; bind 0 2 0; pending = 1; plan 0; action 0 0 = 203; change 0 2 5; pending = 1; read = 1; pending = 0");
        Runs.run("promise 25, computed ones do not differ", "setType 0 3 2 2 0 0; generator 0; key 0 0 3; make 0; change 0 0 9; take 3 0; pending = 0; change 0 1 9; read = 1; pending = 0");
        Runs.run("promise 25, write-only ones differ", "setType 0 4 0 0 0 0; tell 0 0 0 5 0; generator 0; bind 0 0 0; key 0 0 3; make 0; change 0 0 5; take 3 0; stored 3 0 = 0; pending = 1");
    }

    private static void noPlan() {
        Runs.run("no plan, a conflict", "pending = 0; tell 0 0 0 5 0; tell 0 0 0 6 0; pending = -1; differing = -1; plan 0 ! state; remove 1; pending = 0");
        Runs.run("no plan, a statement at fault", "tell 0 4 0 5 0; tell 1 10 0 0 0; pending = -1; differing = -1; plan 0 ! state; remove 1; pending = 0; lock 0 1; pending = 0; tell 0 3 0 9 0; pending = -1; except 0 0 1; pending = 0",
                "pass 1; pending = -1; setLayer 0 1; pending = 0; tell 3 9 0 0 0; pending = -1; tell 3 8 0 0 0; pending = 0");
        Runs.run("no plan, a field that is not settled", "generator 0; bind 0 1 4; pending = 0; key 0 0 3; pending = -1; tell 0 0 4 9 0; pending = 1; remove 0; tell 0 4 4 9 0; pending = 1; remove 1; pending = -1; unkey 0 0; pending = 0",
                "key 0 0 3; pending = -1; plan 0 ! state; bind 0 1 -1; pending = 1; bind 0 2 4; pending = -1");
        Runs.run("no plan, a tainted field", "setType 0 4 0 0 0 0; tell 0 0 4 9 0; tell 0 11 4 0 0; generator 0; bind 0 0 4; bind 0 1 4; pending = 0; key 0 0 3; pending = -1; differing = -1; bind 0 1 -1 = 4; pending = 1; differing = 1",
                "tell 0 0 5 1 0; bind 0 2 5; pending = 1; tell 0 6 5 4 0; pending = -1; bind 0 2 -1; pending = 1; upgrade 0; pending = 1; bind 0 0 4; pending = -1");
        Runs.run("no plan, a row that lacks a key", "setType 0 2 0 0 0 0; generator 0; generator 1; bind 1 0 10; pending = 0; key 1 0 3; pending = -1; differing = -1; key 0 0 4; pending = -1; key 0 0 3; pending = 3; key 1 1 5; pending = -1; unkey 1 1; pending = 3",
                "unkey 0 0; pending = -1; bind 1 0 -1; pending = 2");
        Runs.run("no plan, the last generator and attribute", "generator 0; generator 1; generator 2; generator 2; key 3 0 3; pending = 1; bind 3 2 0; pending = -1; plan 0 ! state; plan 3 ! index");
    }

    private static void replaced() {
        String start = "tell 0 0 0 5 0; generator 0; bind 0 0 0; key 0 0 3; make 0; take 3 0";
        Runs.run("replaced, first destroying", "setType 0 1 0 0 0 0", start, "pending = 2; differing = 1; plan 0; action 0 0 = 303; action 0 1 = 103; action 0 2 ! index");
        Runs.run("replaced, first making", "setType 0 1 0 0 1 0", start, "pending = 2; differing = 1; plan 0; action 0 0 = 103; action 0 1 = 403; action 0 2 ! index");
        Runs.run("changed, not forced", "setType 0 0 1 1 1 0", start, "pending = 1; differing = 1; plan 0; action 0 0 = 203");
        Runs.run("replaced, the third attribute", "setType 0 0 0 1 1 0", start, "pending = 1; bind 0 2 0; pending = 2; bind 0 0 -1; pending = 2; bind 0 2 -1; pending = 0");
        Runs.run("replaced, tainted", "generator 0; key 0 0 3; plan 0; approve 0 1; apply 0; step 1; entry 3 = 1; pending = 2; differing = 1; plan 0; action 1 0 = 303; action 1 1 = 103; unkey 0 0; pending = 1; plan 0; action 2 0 = 303");
    }

    private static void dependents() {
        String start = "setType 0 1 2 0 0 0; setType 1 0 1 0 1 0; generator 0; generator 1; bind 1 0 11; key 0 0 3; key 1 0 3; plan 0; approve 0 1; apply 0; step 0; step 0; pending = 0; tell 0 0 0 5 0";
        Runs.run("dependents of what is replaced", start, "bind 0 0 0; pending = 3; differing = 2; plan 0; action 1 0 = 303; action 1 1 = 103; action 1 2 = 219");
        Runs.run("dependents that are replaced too", start, "bind 1 0 -1; bind 1 1 11; pending = 2; bind 0 0 0; pending = 4; differing = 2; plan 0; action 1 2 = 119; action 1 3 = 419");
        Runs.run("dependents of what is made", start, "destroy 0; read; pending = 2; differing = 2; plan 0; action 1 0 = 103; action 1 1 = 219");
        Runs.run("dependents of what is changed", start, "bind 0 2 0; pending = 1; differing = 1");
        Runs.run("dependents of a computed value that was changed", start, "change 0 1 9; read = 1; given 19 0 = 9; pending = 1; differing = 1; plan 0; action 1 0 = 219");
    }

    private static void adopted() {
        Runs.run("adopted ones do not differ", "setType 0 1 0 0 0 1; tell 0 0 0 5 0; generator 0; bind 0 0 0; key 0 0 3; plan 0; approve 0 1; apply 0; step 0; change 0 0 9; read; pending = 0; differing = 0",
                "remove 0; tell 0 0 0 9 0; pending = 0; remove 1; tell 0 0 0 6 0; pending = 2; differing = 1; remove 2; tell 0 0 0 5 0; pending = 0; bind 0 0 -1; pending = 2");
        Runs.run("mended ones differ", "setType 0 0 0 0 0 0; tell 0 0 0 5 0; generator 0; bind 0 0 0; key 0 0 3; plan 0; approve 0 1; apply 0; step 0; change 0 0 9; pending = 0; read; pending = 1; differing = 1");
        Runs.run("adopted ones whose source gives nothing", "setType 0 0 0 0 0 1; setType 1 2 0 0 0 0; generator 1; generator 0; bind 1 0 10; key 0 0 3; key 1 0 3; plan 0; approve 0 1; apply 0; step 0; step 0",
                "change 1 0 9; read = 1; entry 19 = 110; pending = 0; destroy 0; read = 100; pending = 2; differing = 2");
    }

    private static void order() {
        Runs.run("the order of actions", "setType 0 1 0 0 1 0; setType 1 1 0 0 0 0; tell 0 0 0 5 0; generator 0; generator 1; generator 2; key 0 0 3; key 0 0 1; key 0 0 2; key 1 0 9; key 1 0 4; key 2 0 0; key 2 0 15; key 2 0 7",
                "plan 0; approve 0 1; apply 0; step 0 = 101; step 0 = 102; step 0 = 103; step 0 = 120; step 0 = 125; step 0 = 132; step 0 = 139; step 0 = 147; isApplying = 0",
                "bind 0 0 0; bind 1 0 0; bind 2 0 0; unkey 0 1; unkey 1 0; unkey 2 0; unkey 2 0; key 1 0 5; pending = 12; differing = 9; plan 1",
                "action 1 0 = 102; action 1 1 = 103; action 1 2 = 121; action 1 3 = 325; action 1 4 = 125; action 1 5 = 232; action 1 6 = 347; action 1 7 = 339; action 1 8 = 320; action 1 9 = 403; action 1 10 = 402",
                "action 1 11 = 301; action 1 12 ! index");
        Runs.run("the order in which rows are is no matter", "generator 0; key 0 0 3; key 0 0 1; plan 0; unkey 0 0; key 0 1 1; isStale 0 = 0; action 0 0 = 101");
    }

    private static void differing() {
        Runs.run("promise 26", "differing = 0; generator 0; key 0 0 3; differing = 1; key 0 0 4; differing = 2; make 0; take 3 0; differing = 1; unkey 0 1; differing = 2; unkey 0 0; differing = 1; destroy 0; differing = 1; read; differing = 0");
        Runs.run("promise 26, the name 0", "generator 0; generator 1; key 0 0 0; differing = 1; make 0; take 0 0; differing = 0; unkey 0 0; differing = 1; pending = 1; plan 0; action 0 0 = 300");
        Runs.run("promise 26, asked behind a change", "generator 0; bind 0 0 0; key 0 0 0; differing = -1; tell 0 0 0 5 0; differing = 1; tell 0 0 0 6 0; differing = -1");
        Runs.run("promise 26, dependents of a computed value 0", "setType 0 2 1 0 0 0; generator 0; generator 1; bind 1 0 10; key 0 0 0; key 1 0 0; plan 0; approve 0 1; apply 0; step 0; step 0; stored 16 0 = 0; differing = 0; tell 0 0 0 5 0; bind 0 1 0; differing = 2; pending = 3");
        Runs.run("promise 26, nothing is made", "generator 0; key 0 0 3; differing = 1; resources = 0; serial = 0; entry 3 = -1; differing = 1");
        Runs.run("promise 26, doubled", "setType 0 2 1 0 0 0; generator 0; generator 0; bind 1 1 10; key 0 0 3; key 1 0 3; plan 0; approve 0 1; apply 0; step 0; step 0; differing = 0; upgrade 0; differing = 0; change 0 1 7; read = 1; differing = 0",
                "change 0 1 8; read = 1; differing = 1; pending = 2");
    }

    private static void plan() {
        Layerwright object = Runs.run("promise 27", "plan -1 ! index; plan 3 ! index");
        for (int i = 0; i < 40; i++) Runs.more(object, "promise 27, forty", "plan " + i % 3 + " = " + i);
        Runs.more(object, "promise 27, forty", "plan 0 ! state; plan 3 ! index; action 39 0 ! index; isStale 39 = 0; isStale 40 ! index; pending = 0");
        Runs.run("promise 28", "action 0 0 ! index; generator 0; key 0 0 3; plan 2 = 0; action 0 0 = 103; action 0 1 ! index; action 0 -1 ! index; action -1 0 ! index; action 1 0 ! index; unkey 0 0; action 0 0 = 103; plan 0 = 1; action 1 0 ! index");
    }

    private static void approve() {
        Runs.run("promise 29", "approve 0 0 ! index; plan 0 = 0; approve 0 0 ! state; approve 0 -1 ! index; approve 0 3 ! index; approve -1 1 ! index; approve 1 1 ! index; approve 0 1 = 1; approve 0 1 = 0; approve 0 2 = 0; approve 0 0 ! state",
                "plan 2 = 1; approve 1 2 ! state; approve 1 0 = 1");
        Runs.run("promise 29, one plan alone", "generator 0; key 0 0 3; plan 0; plan 1; approve 1 0; apply 0 ! state; apply 1 = 1; approve 1 2 = 0; approve 0 2 = 1");
    }

    private static void isStale() {
        Runs.run("promise 30", "isStale -1 ! index; isStale 0 ! index; generator 0; key 0 0 3; plan 0 = 0; isStale 0 = 0; isStale 1 ! index; key 0 0 4; isStale 0 = 0; unkey 0 1; isStale 0 = 1; key 0 0 3; isStale 0 = 0; upgrade 2; isStale 0 = 1");
        Runs.run("promise 30, no plan could be made", "plan 0; generator 0; key 0 0 3; plan 0; isStale 0 = 0; isStale 1 = 0; tell 0 0 0 1 0; tell 0 0 0 2 0; isStale 0 = 1; isStale 1 = 1; remove 1; isStale 0 = 0; isStale 1 = 0");
        Runs.run("promise 30, another action of the name", "setType 0 1 0 0 0 0; tell 0 0 0 5 0; generator 0; bind 0 1 0; key 0 0 3; make 0; take 3 0; plan 0; action 0 0 = 203; isStale 0 = 0; bind 0 0 0; isStale 0 = 1; pending = 2; bind 0 0 -1; isStale 0 = 0");
        Runs.run("promise 30, the last action", "generator 0; key 0 0 3; key 0 0 4; plan 0; unkey 0 0; isStale 0 = 1; key 0 0 4; isStale 0 = 0; unkey 0 1; isStale 0 = 1");
        Runs.run("promise 30, after its apply", "generator 0; key 0 0 3; plan 0; approve 0 1; apply 0; isStale 0 = 0; step 0; isStale 0 = 1");
    }

    private static void rebase() {
        Runs.run("promise 31", "rebase 0 ! index; rebase -1 ! index; generator 0; key 0 0 3; key 0 0 5; plan 0; rebase 1 ! index; approve 0 1; upgrade 1; isStale 0 = 1; apply 0 ! state; rebase 0 = 1; isStale 0 = 0",
                "unkey 0 0; rebase 0 = 0; isStale 0 = 1; upgrade 1; rebase 0 = 0; key 0 0 5; isStale 0 = 1; rebase 0 = 1; isStale 0 = 0; key 0 0 6; rebase 0 = 1; action 0 2 ! index; apply 0 = 2; rebase 0 ! state; step 0; step 0; rebase 0 ! state");
        Runs.run("promise 31, no plan could be made", "generator 0; key 0 0 3; plan 0; upgrade 1; tell 0 0 0 1 0; tell 0 0 0 2 0; rebase 0 = 0; remove 1; isStale 0 = 1; rebase 0 = 1; isStale 0 = 0");
        Runs.run("promise 31, it is not approved by that", "generator 0; key 0 0 3; plan 0; upgrade 1; rebase 0 = 1; apply 0 ! state; approve 0 2 = 1; apply 0 = 1");
    }
}

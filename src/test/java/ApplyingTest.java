/** Promises 32 to 36: apply, step, isApplying, isLocked, serial. */
final class ApplyingTest {
    private ApplyingTest() {
    }

    public static void main(String[] args) {
        apply();
        lockOfTheState();
        stepWrongInputs();
        making();
        computedValues();
        changing();
        destroyingAndRetiring();
        failing();
        failingByItself();
        sixtyResources();
        leftOut();
        leftOutForGood();
        dying();
        serial();
        Runs.end();
    }

    private static void apply() {
        Runs.run("promise 32", "apply 0 ! index; apply -1 ! index; plan 0 = 0; approve 0 1; apply 0 ! state; generator 0; key 0 0 3; key 0 0 4; plan 0 = 1; apply 1 ! state; apply 2 ! index; approve 1 2; apply 1 = 2",
                "apply 1 ! state; isApplying = 1; isLocked = 1; step 0 = 103; step 0 = 104; apply 1 ! state; isApplying = 0; isLocked = 0");
        Runs.run("promise 32, another serial", "generator 0; key 0 0 3; plan 0; approve 0 1; upgrade 1; apply 0 ! state; isApplying = 0; rebase 0; apply 0 = 1");
        Runs.run("promise 32, another action", "generator 0; key 0 0 3; key 0 0 4; plan 0; approve 0 1; unkey 0 0; apply 0 ! state; key 0 0 4; tell 0 0 0 5 0; tell 0 0 0 6 0; apply 0 ! state; remove 1; key 0 0 5; apply 0 = 2; step 0 = 103; step 0 = 104; isApplying = 0; pending = 1");
        Runs.run("promise 32, locked", "generator 0; key 0 0 3; key 0 0 4; plan 0; plan 0; approve 0 1; approve 1 1; apply 0 = 2; apply 1 ! state; step 2 = 103; isLocked = 1; apply 1 ! state; pass 2; apply 1 ! state; pass 1; apply 1 = 2; step 0; step 0; apply 0 ! state");
        Runs.run("promise 32, asked behind a change", "generator 0; bind 0 0 0; tell 0 0 0 5 0; key 0 0 3; plan 0; approve 0 1; remove 0; apply 0 ! state; tell 0 0 0 6 0; apply 0 = 1; step 0; stored 3 0 = 6");
        Runs.run("promise 32, once", "generator 0; key 0 0 3; plan 0; approve 0 1; apply 0; pass 3; isApplying = 0; isStale 0 = 0; apply 0 ! state; serial = 0");
    }

    private static void lockOfTheState() {
        Runs.run("promises 34 and 35", "isApplying = 0; isLocked = 0; generator 0; key 0 0 3; key 0 0 4; plan 0; approve 0 1; pass 5; apply 0; isApplying = 1; isLocked = 1; step 0; isApplying = 1; isLocked = 1; pass 2; isApplying = 1; isLocked = 1",
                "pass 1; isApplying = 0; isLocked = 0; step 0 ! state; entry 3 = 0; entry 4 = -1; pending = 1");
        Runs.run("promises 34 and 35, over early", "generator 0; key 0 0 3; plan 0; approve 0 1; apply 0; step 0; isLocked = 0; pass 2; key 0 0 4; plan 0; approve 1 1; apply 1; pass 2; isLocked = 1; isApplying = 1; step 0 = 104; isLocked = 0");
        Runs.run("promises 34 and 35, many days at once", "generator 0; key 0 0 3; plan 0; approve 0 1; apply 0; pass 30; isLocked = 0; isApplying = 0");
        Runs.run("while the state is locked", "generator 0; key 0 0 3; key 0 0 4; make 0 = 0; take 4 0; bind 0 0 0; tell 0 0 0 5 0; plan 0; approve 0 1; apply 0 = 2; read ! state; move 4 5 ! state; take 5 0 ! state; upgrade 0 ! state",
                "plan 1 = 1; change 0 0 9 = 0; make 1 = 1; destroy 1 = 1; tell 1 8 0 0 0; rebase 1 = 1; approve 1 2 = 1; pending = 2; step 2; read ! state; pass 3; read = 1");
    }

    private static void stepWrongInputs() {
        Runs.run("promise 33", "step 0 ! state; step 3 ! argument; step -1 ! argument; generator 0; key 0 0 3; plan 0; step 0 ! state; approve 0 1; apply 0; step 3 ! argument; step -1 ! argument; step 0 = 103; step 0 ! state; step 3 ! argument");
    }

    private static void making() {
        Runs.run("MAKE", "setType 0 0 0 4 0 0; tell 0 0 0 5 0; tell 0 0 1 6 0; generator 0; bind 0 0 0; bind 0 2 1; key 0 0 3; plan 0; approve 0 1; apply 0; remove 0; tell 0 0 0 8 0; step 0; entry 3 = 0; stored 3 0 = 8; stored 3 1 = 0; stored 3 2 = 6",
                "real 0 0 = 8; real 0 1 = 0; real 0 2 = 6; resources = 1; serial = 1; pending = 0; setType 0 0 0 0 0 0 ! state");
        Runs.run("MAKE of the generator's type", "generator 2; key 0 0 3; plan 0; approve 0 1; apply 0; step 0; generator 1; generator 2; move 3 16 ! state; move 3 32 = 2; setType 2 0 0 0 0 0 ! state");
        Runs.run("MAKE after the key was taken out", "generator 0; key 0 0 3; key 0 0 4; plan 0; approve 0 1; apply 0; unkey 0 0; unkey 0 0; step 0 = 103; step 0 = 104; pending = 2");
        Runs.run("MAKE of a dependent", "setType 0 0 2 0 0 0; generator 0; generator 1; bind 1 2 11; key 0 0 7; key 1 0 7; plan 0; approve 0 1; apply 0; step 0 = 107; step 0 = 123; stored 23 2 = 7; real 1 2 = 7; pending = 0");
    }

    private static void computedValues() {
        Runs.run("computed values", "setType 0 2 0 2 0 0; generator 0; generator 0; key 1 0 15; key 0 0 15; plan 0; approve 0 1; apply 0; step 0; step 0; real 0 0 = 15; real 0 1 = 0; real 0 2 = 15; stored 31 0 = 31; stored 31 2 = 31",
                "upgrade 1; destroy 0; destroy 1; read = 200; plan 0; approve 1 1; apply 1; step 0; step 0; stored 15 0 = 22; stored 31 0 = 38; real 2 2 = 22; destroy 2; read; plan 0; approve 2 1; apply 2; step 0; stored 15 0 = 29");
        Runs.run("computed values by 64", "setType 0 2 0 0 0 0; generator 0; generator 0; generator 0; generator 0; key 3 0 15; key 3 0 8; key 3 0 9; plan 0; approve 0 1; apply 0; step 0; step 0; step 0; stored 63 0 = 63; stored 56 0 = 56",
                "upgrade 1; destroy 0; destroy 1; destroy 2; read = 300; plan 0; approve 1 1; apply 1; step 0; step 0; step 0; stored 56 0 = 63; stored 57 0 = 0; stored 63 0 = 6");
        Runs.run("computed values count what was made for the name", "setType 0 2 0 0 0 0; generator 0; key 0 0 3; plan 0; approve 0 1; apply 0; step 0; move 3 4; key 0 0 4; plan 0; action 1 0 = 103; action 1 1 ! index; approve 1 1; apply 1; step 0; stored 3 0 = 10; stored 4 0 = 3",
                "make 0 = 2; destroy 1; read = 100; take 3 2; stored 3 0 = 0; destroy 2; read = 100; plan 0; approve 2 1; apply 2; step 1 = 103; stored 3 0 = 17; entry 3 = 301; plan 0; approve 3 1; apply 3; step 0 = 303; step 0 = 103; stored 3 0 = 24");
    }

    private static void changing() {
        Runs.run("CHANGE", "setType 0 0 0 0 0 1; tell 0 0 0 5 0; tell 0 0 1 6 0; generator 0; key 0 0 3; make 0; change 0 2 7; take 3 0; bind 0 0 0; plan 0; approve 0 1; apply 0; change 0 1 9; step 0 = 203; stored 3 0 = 5; stored 3 1 = 0; stored 3 2 = 0",
                "real 0 0 = 5; real 0 1 = 9; real 0 2 = 0; entry 3 = 0; serial = 2; pending = 0");
        Runs.run("CHANGE of another resource than the first", "tell 0 0 0 5 0; generator 0; key 0 0 3; make 0; make 0; make 0; take 3 2; bind 0 1 0; plan 0; approve 0 1; apply 0; step 0 = 203; real 2 1 = 5; real 0 1 = 0; real 1 1 = 0; stored 3 1 = 5; entry 3 = 200");
        Runs.run("CHANGE, what is adopted, attribute by attribute", "setType 0 0 0 0 0 1; tell 0 0 0 5 0; tell 0 0 1 6 0; generator 0; bind 0 0 0; bind 0 1 0; bind 0 2 0; key 0 0 3; plan 0; approve 0 1; apply 0; step 0; change 0 0 20; change 0 1 21; change 0 2 22; read = 3; entry 3 = 70",
                "bind 0 1 1; plan 0; approve 1 1; apply 1; step 0 = 203; entry 3 = 50; bind 0 2 1; plan 0; approve 2 1; apply 2; step 0 = 203; entry 3 = 10; bind 0 0 1; plan 0; approve 3 1; apply 3; step 0 = 203; entry 3 = 0; stored 3 0 = 6; stored 3 1 = 6; stored 3 2 = 6");
        Runs.run("CHANGE, what differs then", "tell 0 0 0 5 0; tell 0 0 1 6 0; generator 0; key 0 0 3; make 0; take 3 0; bind 0 0 0; plan 0; approve 0 1; apply 0; bind 0 0 -1; bind 0 1 1; step 0 = 203; stored 3 0 = 0; stored 3 1 = 6; real 0 1 = 6; pending = 0");
        Runs.run("CHANGE, nothing differs then", "tell 0 0 0 5 0; generator 0; key 0 0 3; make 0; take 3 0; bind 0 0 0; plan 0; approve 0 1; apply 0; bind 0 0 -1; change 0 0 9; step 0 = 203; stored 3 0 = 0; real 0 0 = 9; serial = 2; isApplying = 0");
        Runs.run("CHANGE, an attribute that forces", "setType 0 1 0 0 0 0; tell 0 0 0 5 0; generator 0; key 0 0 3; make 0; take 3 0; bind 0 1 0; plan 0; approve 0 1; apply 0; bind 0 0 0; step 0 = 203; stored 3 0 = 5; stored 3 1 = 5; pending = 0");
        Runs.run("CHANGE, the resource is gone", "tell 0 0 0 5 0; generator 0; key 0 0 3; make 0; take 3 0; bind 0 0 0; plan 0; approve 0 1; apply 0; destroy 0; step 0 = 203; stored 3 0 = 5; real 0 0 = -1; serial = 2; read = 100");
        Runs.run("CHANGE, adopted", "setType 0 0 0 0 0 1; tell 0 0 0 5 0; tell 0 0 1 6 0; generator 0; bind 0 0 0; bind 0 1 1; key 0 0 3; plan 0; approve 0 1; apply 0; step 0; change 0 0 20; change 0 1 21; read = 2; entry 3 = 30; pending = 0",
                "remove 0; tell 0 0 0 7 0; plan 0; approve 1 1; apply 1; step 0 = 203; entry 3 = 20; stored 3 0 = 7; stored 3 1 = 21; real 0 0 = 7; real 0 1 = 21; pending = 0");
    }

    private static void destroyingAndRetiring() {
        Runs.run("DESTROY", "generator 0; key 0 0 3; make 0; take 3 0; unkey 0 0; plan 0; approve 0 1; apply 0; step 0 = 303; entry 3 = -1; real 0 0 = -1; serial = 2; resources = 1; isApplying = 0; destroy 0 = 0");
        Runs.run("DESTROY, the resource is gone", "generator 0; key 0 0 3; make 0; take 3 0; unkey 0 0; plan 0; approve 0 1; apply 0; destroy 0; step 0 = 303; entry 3 = -1; serial = 2");
        Runs.run("DESTROY and MAKE", "setType 0 1 0 0 0 0; tell 0 0 0 5 0; generator 0; bind 0 0 0; key 0 0 3; make 0; take 3 0; plan 0; approve 0 1; apply 0 = 2; step 0 = 303; entry 3 = -1; step 0 = 103; entry 3 = 100; stored 3 0 = 5; real 0 0 = -1; serial = 3");
        Runs.run("MAKE and RETIRE", "setType 0 1 0 0 1 1; tell 0 0 0 5 0; generator 0; bind 0 0 0; key 0 0 3; make 0; take 3 0; change 0 1 4; read = 1; entry 3 = 20; plan 0; approve 0 1; apply 0 = 2; step 0 = 103; entry 3 = 100; real 0 0 = 0; pending = 0",
                "serial = 3; step 0 = 403; real 0 0 = -1; real 1 0 = 5; entry 3 = 100; serial = 4; isApplying = 0");
        Runs.run("RETIRE, the resource is gone", "setType 0 1 0 0 1 0; tell 0 0 0 5 0; generator 0; bind 0 0 0; key 0 0 3; make 0; take 3 0; plan 0; approve 0 1; apply 0 = 2; step 0; destroy 0 = 1; step 0 = 403; serial = 3; entry 3 = 100; real 1 0 = 5");
        Runs.run("RETIRE of each name's own", "setType 0 1 0 0 1 0; tell 0 0 0 5 0; generator 0; bind 0 0 0; key 0 0 3; key 0 0 4; make 0; make 0; take 4 0; take 3 1; plan 0; approve 0 1; apply 0 = 4; step 0 = 103; step 0 = 104; step 0 = 404; real 0 0 = -1; real 1 0 = 0; step 0 = 403; real 1 0 = -1");
    }

    private static void failing() {
        Runs.run("MAKE that fails", "tell 0 0 0 5 0; generator 0; bind 0 0 0; key 0 0 3; plan 0; approve 0 1; apply 0; step 1 = 103; entry 3 = 1; stored 3 0 = 5; real 0 0 = 5; serial = 1; isApplying = 0; isLocked = 0; pending = 2; differing = 1");
        Runs.run("MAKE that fails, the old resource stays", "setType 0 1 0 0 1 0; tell 0 0 0 5 0; generator 0; bind 0 0 0; key 0 0 3; make 0; take 3 0; plan 0; approve 0 1; apply 0; step 1 = 103; isApplying = 0; entry 3 = 101; real 0 0 = 0",
                "plan 0; approve 1 1; apply 1 = 2; step 0 = 103; step 0 = 403; real 1 0 = -1; real 0 0 = 0; entry 3 = 200");
        Runs.run("CHANGE that fails", "tell 0 0 0 5 0; generator 0; bind 0 0 0; key 0 0 3; make 0; take 3 0; plan 0; approve 0 1; apply 0; step 1 = 203; entry 3 = 0; stored 3 0 = 0; real 0 0 = 0; serial = 1; isApplying = 0; pending = 1");
        Runs.run("DESTROY that fails", "setType 0 1 0 0 0 0; tell 0 0 0 5 0; generator 0; bind 0 0 0; key 0 0 3; make 0; take 3 0; plan 0; approve 0 1; apply 0; step 1 = 303; entry 3 = 0; real 0 0 = 0; serial = 1; isApplying = 0; pending = 2; resources = 1");
        Runs.run("RETIRE that fails", "setType 0 1 0 0 1 0; tell 0 0 0 5 0; generator 0; bind 0 0 0; key 0 0 3; make 0; take 3 0; plan 0; approve 0 1; apply 0; step 0 = 103; step 1 = 403; real 0 0 = 0; serial = 2; isApplying = 0; pending = 0; take 4 0 = 3");
    }

    private static void failingByItself() {
        Runs.run("MAKE, a source gives nothing", "tell 0 0 0 5 0; generator 0; bind 0 2 0; key 0 0 3; key 0 0 4; plan 0; approve 0 1; apply 0; remove 0; step 0 = 103; entry 3 = -1; resources = 0; serial = 0; tell 0 0 0 6 0; step 0 = 104; entry 4 = 0; serial = 1; pending = 1");
        Runs.run("MAKE that is told to fail, too", "tell 0 0 0 5 0; generator 0; bind 0 2 0; key 0 0 3; plan 0; approve 0 1; apply 0; remove 0; step 1 = 103; entry 3 = -1; resources = 0; serial = 0; isApplying = 0; isLocked = 0");
        Runs.run("MAKE that is told to die, too", "tell 0 0 0 5 0; generator 0; bind 0 2 0; key 0 0 3; key 0 0 4; plan 0; approve 0 1; apply 0; remove 0; step 2 = 103; entry 3 = -1; resources = 0; serial = 0; isApplying = 0; isLocked = 1; pass 3; isLocked = 0");
        Runs.run("CHANGE, a source gives nothing", "tell 0 0 0 5 0; tell 0 0 1 6 0; generator 0; bind 0 0 0; key 0 0 3; make 0; take 3 0; plan 0; approve 0 1; apply 0; bind 0 1 1; remove 1; step 0 = 203; stored 3 0 = 0; serial = 1; isApplying = 0; real 0 0 = 0");
        Runs.run("CHANGE, a conflict", "tell 0 0 0 5 0; generator 0; bind 0 0 0; key 0 0 3; make 0; take 3 0; plan 0; approve 0 1; apply 0; tell 0 0 9 5 0; tell 0 0 9 6 0; step 0 = 203; stored 3 0 = 0; serial = 1");
        Runs.run("DESTROY and RETIRE need no source", "setType 0 1 0 0 1 0; tell 0 0 0 5 0; generator 0; bind 0 0 0; key 0 0 3; key 0 0 4; make 0; make 0; take 3 0; take 4 1; unkey 0 0; plan 0; approve 0 1; apply 0 = 3; step 0 = 103; remove 0; step 0 = 304; step 0 = 403; isApplying = 0; serial = 5");
        Runs.run("MAKE, its source is taken out of the row", "setType 0 0 2 0 0 0; generator 0; generator 1; bind 1 0 11; key 0 0 3; key 1 0 3; plan 0; approve 0 1; apply 0; step 0 = 103; unkey 0 0; step 0 = 119; entry 19 = -1; isApplying = 0; resources = 1");
    }

    private static void sixtyResources() {
        Layerwright object = Runs.run("sixty", "tell 0 0 0 5 0; generator 0; key 0 0 3; key 0 0 4; key 0 0 5; key 0 0 6");
        for (int i = 0; i < 57; i++) Runs.more(object, "sixty", "make 0 = " + i);
        Runs.more(object, "sixty", "take 6 0; bind 0 0 0; plan 0; approve 0 1; apply 0 = 4; make 0 = 57; step 0 = 103; step 0 = 104; resources = 60; step 0 = 105; entry 5 = -1; serial = 3; step 0 = 206; serial = 4; isApplying = 0",
                "make 0 ! state; make 3 ! index; resources = 60; plan 0; approve 1 1; apply 1; step 2 = 105; isApplying = 0; isLocked = 1; resources = 60; real 59 0 = 5; real 60 0 ! index; pass 3; plan 0; approve 2 1; apply 2; step 1 = 105; isLocked = 0; entry 5 = -1; entry 4 = 5900",
                "make 0 ! state; resources = 60; pending = 1");
    }

    private static void leftOut() {
        String start = "setType 0 1 2 0 1 0; setType 1 0 2 0 0 0; generator 0; generator 1; generator 2; bind 1 0 11; bind 2 2 14; key 0 0 3; key 0 0 4; key 1 0 3; key 1 0 4; key 2 0 3; key 2 0 4";
        Runs.run("left out, a failed MAKE", start, "plan 0; approve 0 1; apply 0 = 6; step 1 = 103; step 0 = 104; step 0 = 120; step 0 = 136; isApplying = 0; entry 3 = 1; entry 19 = -1; entry 35 = -1; entry 36 = 300; serial = 4");
        Runs.run("left out, in the middle", start, "plan 0; approve 0 1; apply 0 = 6; step 0 = 103; step 0 = 104; step 1 = 119; step 0 = 120; step 0 = 136; isApplying = 0");
        Runs.run("left out, all that is behind", start, "unkey 0 1; unkey 1 1; unkey 2 1; plan 0; approve 0 1; pending = 3; apply 0 = 3; step 1 = 104; isApplying = 0; isLocked = 0");
        Runs.run("left out, one that fails by itself", start, "tell 0 0 0 5 0; bind 0 2 0; plan 0; approve 0 1; apply 0; remove 0; step 0 = 103; tell 0 0 0 5 0; step 0 = 104; step 0 = 120; step 0 = 136; isApplying = 0");
        Runs.run("left out, the failed name's later actions", start, "plan 0; approve 0 1; apply 0; step 0; step 0; step 0; step 0; step 0; step 0; pending = 0; tell 0 0 0 5 0; bind 0 0 0; plan 0; approve 1 1; apply 1 = 6",
                "step 1 = 103; step 0 = 104; step 0 = 220; step 0 = 404; isApplying = 0; real 0 0 = 0; real 1 0 = -1; entry 3 = 601; stored 20 0 = 11; given 36 2 = 20");
        Runs.run("left out, the name 0 and a source that is the attribute 0", "setType 0 2 0 0 0 0; generator 0; generator 1; bind 1 2 10; key 0 0 0; key 1 0 0; plan 0; approve 0 1; apply 0; step 1 = 100; isApplying = 0; plan 0; approve 1 1; apply 1 = 3; step 0 = 300; step 0 = 100; step 0 = 116; isApplying = 0; pending = 0",
                "unkey 1 0; unkey 0 0; plan 0; approve 2 1; apply 2 = 2; step 0 = 316; step 0 = 300; isApplying = 0; entry 0 = -1");
        Runs.run("left out, what has nothing to do with it", start, "bind 2 2 -1; plan 0; approve 0 1; apply 0; step 1 = 103; step 0 = 104; step 0 = 120; step 0 = 135; step 0 = 136; isApplying = 0");
        Runs.run("left out, a DESTROY of a dependent", start, "plan 0; approve 0 1; apply 0; step 0; step 0; step 0; step 0; step 0; step 0; tell 0 0 0 5 0; bind 0 0 0; unkey 2 0; unkey 1 0; plan 0; pending = 7",
                "approve 1 1; apply 1; step 0 = 103; step 1 = 104; step 0 = 219; step 0 = 336; step 0 = 403; isApplying = 0; entry 36 = -1; entry 20 = 300");
        Runs.run("left out, the sources of the failed one do not matter", start, "plan 0; approve 0 1; apply 0; step 0; step 0; step 0; step 0; step 0; step 0; unkey 2 0; unkey 2 0; unkey 1 0; unkey 1 0; unkey 0 0; plan 0; approve 1 1; apply 1 = 5",
                "step 1 = 336; step 0 = 335; step 0 = 320; step 0 = 319; step 0 = 304; entry 36 = 500; entry 20 = -1; isApplying = 0");
    }

    private static void leftOutForGood() {
        String start = "setType 0 0 2 0 0 0; setType 1 1 0 0 1 0; generator 0; generator 1; bind 1 1 11; key 0 0 3; key 0 0 4; key 1 0 3; key 1 0 4; plan 0; approve 0 1; apply 0; step 0; step 0; step 0; step 0; pending = 0; tell 0 0 0 5 0";
        Runs.run("left out by the sources of then", start, "destroy 0; destroy 1; read; pending = 4; plan 0; approve 1 1; apply 1; bind 1 1 -1; step 1 = 103; bind 1 1 11; step 0 = 104; step 0 = 220; isApplying = 0");
        Runs.run("left out, asked up to the first that is not", start, "destroy 0; read; bind 1 2 0; plan 0; approve 1 1; apply 1 = 3; bind 1 1 -1; step 1 = 103; bind 1 1 11; step 0 = 219; serial = 6; stored 19 2 = 0; step 0 = 220; serial = 7; stored 20 2 = 5; isApplying = 0");
        Runs.run("left out, a source bound meanwhile", start, "bind 1 1 -1; bind 1 2 0; destroy 0; read; plan 0; approve 1 1; apply 1 = 3; bind 1 1 11; step 1 = 103; bind 1 1 -1; step 0 = 220; isApplying = 0; stored 19 2 = 0; stored 20 2 = 5");
        Runs.run("left out for all actions of the name", start, "bind 1 0 0; destroy 0; read; plan 0; approve 1 1; apply 1 = 5; action 1 1 = 119; action 1 4 = 419; step 1 = 103; bind 1 1 -1; step 0 = 120; step 0 = 420; isApplying = 0; real 2 0 = 0; real 3 0 = -1");
    }

    private static void dying() {
        Runs.run("dying behind MAKE", "setType 0 2 0 0 0 0; tell 0 0 0 5 0; generator 0; bind 0 1 0; key 0 0 3; key 0 0 4; plan 0; approve 0 1; apply 0; step 2 = 103; isApplying = 0; isLocked = 1; entry 3 = -1; real 0 0 = 3; real 0 1 = 5; resources = 1; serial = 0; step 0 ! state",
                "pass 1; isLocked = 1; pass 1; isLocked = 1; pass 1; isLocked = 0; plan 0; approve 1 1; apply 1; step 0 = 103; entry 3 = 100; stored 3 0 = 10");
        Runs.run("dying behind a MAKE ahead of RETIRE", "setType 0 1 0 0 1 0; tell 0 0 0 5 0; generator 0; bind 0 0 0; key 0 0 3; make 0; take 3 0; plan 0; approve 0 1; apply 0; step 2 = 103; entry 3 = 0; stored 3 0 = 0; real 0 0 = 0; real 1 0 = 5; serial = 1; pass 3; isStale 0 = 0");
        Runs.run("dying behind CHANGE", "setType 0 0 0 0 0 1; tell 0 0 0 5 0; generator 0; key 0 0 3; make 0; change 0 0 7; take 3 0; change 0 0 8; read = 1; entry 3 = 10; bind 0 0 0; plan 0; approve 0 1; apply 0; step 2 = 203; entry 3 = 10; stored 3 0 = 8; real 0 0 = 5; serial = 2; isLocked = 1",
                "pass 3; read = 1; entry 3 = 10; stored 3 0 = 5; pending = 0");
        Runs.run("dying behind DESTROY", "generator 0; key 0 0 3; make 0; take 3 0; unkey 0 0; plan 0; approve 0 1; apply 0; step 2 = 303; entry 3 = 0; real 0 0 = -1; serial = 1; isLocked = 1; isApplying = 0; pass 3; read = 100; entry 3 = -1");
        Runs.run("dying behind RETIRE", "setType 0 1 0 0 1 0; tell 0 0 0 5 0; generator 0; bind 0 0 0; key 0 0 3; make 0; take 3 0; plan 0; approve 0 1; apply 0; step 0; step 2 = 403; real 0 0 = -1; serial = 2; isLocked = 1; isApplying = 0");
        Runs.run("dying, the day counts from when the apply began", "generator 0; key 0 0 3; key 0 0 4; pass 1; plan 0; approve 0 1; apply 0; pass 2; step 2; isLocked = 1; pass 1; isLocked = 0");
    }

    private static void serial() {
        Runs.run("promise 36", "serial = 0; tell 0 0 0 5 0; generator 0; bind 0 0 0; key 0 0 3; key 0 0 4; plan 0; approve 0 1; serial = 0; apply 0; serial = 0; step 0; serial = 1; step 1; serial = 2; make 0; change 2 0 9; destroy 2; serial = 2",
                "read = 0; serial = 2; change 0 0 9; serial = 2; read = 1; serial = 3; read = 0; serial = 3; move 3 9; serial = 4; make 0; take 3 3; serial = 5; upgrade 0; serial = 6; destroy 0; destroy 3; read = 200; serial = 7",
                "pass 3; rebase 0 ! state; plan 0; rebase 1 = 1; serial = 7");
    }
}

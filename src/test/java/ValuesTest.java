/** Promises 10 to 17: standing, value, set, setAnew, conflict, policy, proof, tainted. */
final class ValuesTest {
    private ValuesTest() {
    }

    public static void main(String[] args) {
        standing();
        faultsInOrder();
        hidden();
        guards();
        narrowingByEachKind();
        same();
        less();
        value();
        defaults();
        defaultsOfLayers();
        defaultsThatYield();
        setAndSetAnew();
        conflict();
        leastConflictAmongSeveral();
        policy();
        proof();
        tainted();
        taintedByGuards();
        Runs.end();
    }

    private static void standing() {
        Runs.run("promise 10", "standing -1 ! index; standing 0 ! index; tell 0 0 0 5 0 = 0; standing 0 = 0; standing 1 ! index",
                "remove 0; standing 0 = -1; standing -1 ! index; draft 0 8 0 0 0 = 1; standing 1 = -1; publish 0; standing 1 = -1",
                "tell 0 12 0 1 0 = 2; standing 1 = 0; standing 2 = 0; publish 0; tell 0 12 0 2 0 = 3; standing 1 = -1; standing 2 = 0");
        Runs.run("promise 10, guards", "tell 0 7 0 5 0 = 0; tell 0 0 1 3 0 = 1; tell 0 4 2 3 0 = 2; standing 0 = 0; standing 1 = 10; standing 2 = 0",
                "tell 1 0 0 5 0 = 3; standing 1 = 0; tell 2 7 1 9 0 = 4; tell 2 4 3 9 0 = 5; standing 5 = 10");
        Runs.run("promise 10, by the sets without defaults", "tell 0 7 0 5 0; tell 0 0 1 3 0 = 1; tell 0 4 0 5 0 = 2; value 0 = 5",
                "value 1 = 3; standing 1 = 10; set 1 = 640063; standing 2 = 0");
        Runs.run("promise 10, the fault goes ahead of the guard", "tell 0 7 0 5 0; tell 0 0 1 3 0 = 1; lock 1 3; standing 1 = 3",
                "tell 1 9 0 0 0; standing 1 = 1");
    }

    private static void faultsInOrder() {
        Runs.run("faults, not listed", "tell 0 0 0 5 0 = 0; tell 0 8 1 0 0 = 1; standing 0 = 0; tell 1 9 7 0 0 = 2; standing 0 = 1; value 0 = -1",
                "tell 2 0 1 4 0 = 3; standing 3 = 0; tell 3 8 0 0 0 = 4; standing 0 = 0; value 0 = 5; remove 4; standing 0 = 1",
                "remove 2; standing 0 = 0; standing 1 = 0");
        Runs.run("faults, the other field", "tell 0 9 0 0 0; tell 0 8 0 0 0; tell 0 5 0 1 0 = 2; tell 0 6 0 1 0 = 3; tell 0 6 1 0 0 = 4",
                "tell 0 1 0 1 1 = 5; standing 2 = 1; standing 3 = 1; standing 4 = 1; standing 5 = 0; tell 0 8 1 0 0 = 6",
                "standing 2 = 0; standing 3 = 0; standing 4 = 0");
        Runs.run("faults, kinds that have none", "tell 0 9 0 0 0 = 0; tell 0 7 3 1 0 = 1; tell 0 10 3 0 0 = 2; tell 0 11 3 0 0 = 3; tell 1 7 3 0 0 = 4",
                "standing 0 = 0; standing 1 = 0; standing 2 = 0; standing 3 = 0; standing 4 = 0; tainted = 8; tell 0 4 3 1 0 = 5; standing 5 = 1");
        Runs.run("faults, the first reason", "tell 0 0 0 5 0 = 0; lock 0 3; standing 0 = 3; tell 1 10 0 0 0 = 1; standing 0 = 2; tell 1 9 0 0 0 = 2",
                "standing 0 = 1; remove 2; standing 0 = 2; remove 1; standing 0 = 3; lock 0 -1; standing 0 = 0");
        Runs.run("faults, of packages that are not wanted", "tell 0 0 0 5 0 = 0; draft 0 9 0 0 0; draft 0 10 0 0 0; publish 0; standing 0 = 0",
                "tell 5 12 0 1 0 = 3; standing 0 = 1; remove 3; standing 0 = 0; draft 1 8 0 0 0; tell 0 12 0 1 0; standing 0 = 1");
    }

    private static void hidden() {
        Runs.run("hidden", "tell 0 10 0 0 0 = 0; tell 0 0 0 5 0 = 1; tell 1 0 0 5 0 = 2; draft 0 3 0 6 0 = 3; publish 0; tell 1 12 0 1 0 = 4",
                "standing 1 = 0; standing 2 = 2; standing 3 = 2; tell 0 5 1 0 1 = 5; tell 1 5 1 0 1 = 6; tell 1 6 1 0 0 = 7",
                "tell 1 6 0 1 0 = 8; tell 1 4 0 5 0 = 9; standing 5 = 0; standing 6 = 2; standing 7 = 2; standing 8 = 2; standing 9 = 2",
                "tell 1 10 0 0 0 = 10; standing 1 = 2; standing 5 = 2");
        Runs.run("hidden by a package", "draft 0 10 0 0 0 = 0; draft 0 0 0 5 0 = 1; publish 0; draft 1 3 0 9 0 = 2; publish 1",
                "tell 0 12 0 1 0; tell 0 12 1 1 0; tell 0 3 0 7 0 = 5; standing 1 = 0; standing 2 = 2; standing 5 = 2");
        Runs.run("hidden, a for the other kinds is no field", "tell 0 10 1 0 0; tell 1 0 2 1 0 = 1; tell 1 2 2 1 1 = 2; standing 1 = 0; standing 2 = 0");
    }

    private static void guards() {
        Runs.run("guards, the next statement of the file", "tell 0 7 0 5 0 = 0; tell 1 0 2 1 0 = 1; tell 0 0 1 3 0 = 2; tell 0 0 3 3 0 = 3",
                "standing 1 = 0; standing 2 = 10; standing 3 = 0");
        Runs.run("guards, removed ones left out", "tell 0 7 0 5 0 = 0; tell 0 0 1 3 0 = 1; tell 0 0 3 3 0 = 2; remove 1; standing 2 = 10",
                "remove 0; standing 2 = 0; tell 0 7 0 5 0 = 3; tell 0 8 0 0 0 = 4; tell 0 0 4 4 0 = 5; standing 5 = 0; remove 4; standing 5 = 10");
        Runs.run("guards, the last of two", "tell 0 7 0 5 0; tell 0 7 1 6 0; tell 0 0 2 7 0 = 2; tell 1 0 1 6 0 = 3; standing 2 = 0",
                "remove 3; tell 1 0 0 5 0; standing 2 = 10");
        Runs.run("guards of versions", "draft 0 7 0 5 0 = 0; tell 0 0 1 1 0 = 1; draft 0 0 1 2 0 = 2; publish 0; tell 0 12 0 1 0; standing 1 = 0; standing 2 = 10",
                "draft 0 7 0 5 0 = 4; publish 0; draft 0 0 2 2 0 = 5; publish 0; tell 0 12 0 3 0; standing 5 = 0; standing 2 = -1");
        Runs.run("guards that hold", "tell 0 7 0 63 0; tell 0 0 1 3 0 = 1; tell 1 2 0 63 62; standing 1 = 10; tell 1 3 0 62 0; standing 1 = 0; value 1 = 3");
        Runs.run("guards of an empty set", "tell 0 7 0 5 0; tell 0 0 1 3 0 = 1; tell 1 0 0 6 0; standing 1 = 10; tell 1 0 0 7 0; standing 1 = 0; set 1 = 10303");
        Runs.run("guards asked anew", "tell 0 7 0 5 0; tell 0 0 1 6 0; tell 1 7 1 6 0; tell 1 0 2 7 0; tell 2 7 2 7 0; tell 2 0 3 8 0",
                "set 3 = 640063; tell 3 0 0 5 0; set 3 = 10808; setAnew 3 = 10808");
        Runs.run("guards, another value", "tell 0 7 0 5 0; tell 0 0 1 6 0; tell 1 0 0 4 0; set 1 = 640063; standing 1 = 10");
    }

    private static void narrowingByEachKind() {
        Runs.run("IS", "tell 0 0 0 0 0; tell 0 0 1 63 0; set 0 = 10000; set 1 = 16363; value 0 = 0; value 1 = 63");
        Runs.run("IN", "tell 0 1 0 0 63; set 0 = 640063; tell 0 1 0 3 9; set 0 = 70309; tell 0 1 0 9 63; set 0 = 10909; tell 0 1 1 0 0; set 1 = 10000",
                "tell 0 1 2 63 63; set 2 = 16363; tell 0 1 3 1 62; set 3 = 620162");
        Runs.run("EITHER", "tell 0 2 0 9 3; set 0 = 20309; tell 0 2 1 5 5; set 1 = 10505; tell 0 2 2 0 63; set 2 = 20063");
        Runs.run("NOT", "tell 0 3 0 0 0; set 0 = 630163; tell 0 3 0 63 0; set 0 = 620162; tell 0 3 0 30 0; set 0 = 610162");
        Runs.run("DEFAULT, LIST, HIDE, SECRET, WHEN narrow nothing", "tell 0 4 0 5 0; tell 0 8 0 0 0; tell 0 10 0 0 0; tell 0 11 0 0 0; tell 0 7 0 5 0; set 0 = 640063");
    }

    private static void same() {
        Runs.run("SAME", "tell 0 5 1 0 2; set 1 = 620263; set 0 = 620061; tell 0 0 0 5 0; set 1 = 10707; tell 0 5 2 1 -7; set 2 = 10000");
        Runs.run("SAME backwards", "tell 0 5 1 0 2; tell 0 1 1 10 12; set 0 = 30810; setAnew 0 = 30810; tell 1 3 0 9 0; set 1 = 21012");
        Runs.run("SAME at the ends", "tell 0 5 1 0 63; set 1 = 16363; set 0 = 10000; tell 0 5 3 2 -63; set 3 = 10000; set 2 = 16363");
        Runs.run("SAME without b", "tell 0 5 1 0 0; tell 0 2 0 3 40; set 1 = 20340; tell 0 3 1 3 0; value 0 = 40");
        Runs.run("SAME of a field with itself", "tell 0 5 0 0 0; set 0 = 640063; conflict = 0; tell 0 5 1 1 1; set 1 = 0; conflict = 2; setAnew 1 = 0");
        Runs.run("SAME below 0 and above 63", "tell 0 5 1 0 -5; tell 0 0 0 4 0; set 1 = 0; conflict = 3; set 0 = 0");
    }

    private static void less() {
        Runs.run("LESS", "tell 0 6 0 1 0; set 0 = 630062; set 1 = 630163; tell 0 1 1 4 9; set 0 = 90008; tell 0 1 0 5 30; set 0 = 40508; set 1 = 40609");
        Runs.run("LESS than 0", "tell 0 6 0 1 0; tell 0 0 1 0 0; set 0 = 0; set 1 = 0; conflict = 3; value 5 = -2");
        Runs.run("LESS, of 63", "tell 0 0 0 63 0; set 0 = 16363; tell 0 6 0 1 0; set 0 = 0; set 1 = 0; setAnew 1 = 0");
        Runs.run("LESS, the greatest one", "tell 0 2 1 3 40; tell 0 6 0 1 0; set 0 = 400039; tell 0 1 0 3 63; set 1 = 14040");
        Runs.run("LESS in a ring", "tell 0 6 0 1 0; tell 0 6 1 0 0; set 0 = 0; set 1 = 0; conflict = 3; setAnew 0 = 0");
        Runs.run("LESS than itself", "tell 0 6 0 0 0; set 0 = 0; conflict = 1; setAnew 0 = 0");
        Runs.run("LESS, a chain", "tell 0 6 0 1 0; tell 0 6 1 2 0; tell 0 6 2 3 0; set 0 = 610060; set 3 = 610363; setAnew 1 = 610161; setAnew 3 = 610363");
    }

    private static void value() {
        Runs.run("promise 11", "value -1 ! index; value 10 ! index; tell 0 2 0 3 4; value 0 = -1; tell 0 3 0 3 0; value 0 = 4; value 1 = -1",
                "tell 0 0 1 1 0; tell 0 3 1 1 0; value 0 = -2; value 1 = -2; value 9 = -2; value 10 ! index");
        Runs.run("promise 11, the value 0", "tell 0 0 3 0 0; value 3 = 0; tell 0 4 4 0 0; value 4 = 0");
    }

    private static void defaults() {
        Runs.run("defaults", "tell 0 1 0 3 9; tell 0 4 0 5 0 = 1; value 0 = 5; set 0 = 70309; tell 0 4 0 5 0; value 0 = 5; tell 0 4 0 10 0 = 3; value 0 = 5",
                "tell 0 4 0 6 0 = 4; value 0 = -1; remove 4; value 0 = 5; tell 1 0 0 4 0; value 0 = 4");
        Runs.run("defaults narrow on", "tell 0 5 1 0 1; tell 0 4 0 5 0; value 1 = 6; set 1 = 630163; tell 0 4 1 9 0; value 1 = 6; value 0 = 5");
        Runs.run("defaults by rising fields", "tell 0 5 0 1 1; tell 0 4 0 5 0; tell 0 4 1 9 0; value 0 = 5; value 1 = 4");
        Runs.run("defaults that count by then", "tell 0 4 0 5 0; tell 0 7 0 5 0; tell 0 4 1 6 0; value 1 = 6; tell 1 7 2 1 0; tell 1 4 3 4 0; value 3 = -1",
                "tell 2 4 2 1 0; value 3 = 4; tell 3 7 5 1 0; tell 3 4 4 4 0; tell 3 4 5 1 0; value 4 = -1; value 5 = 1");
        Runs.run("defaults with guards that come to hold", "tell 0 7 0 5 0; tell 0 0 1 3 0; tell 0 4 0 5 0; value 1 = 3");
        Runs.run("defaults at fault", "tell 0 4 0 5 0 = 0; tell 1 10 0 0 0; value 0 = -1; tell 1 4 0 6 0; value 0 = 6; lock 0 3; value 0 = 6");
        Runs.run("no defaults with a conflict", "tell 0 4 0 5 0; tell 0 0 1 5 0; tell 0 0 1 6 0; value 0 = -2; set 0 = 640063");
    }

    private static void defaultsOfLayers() {
        Runs.run("defaults, the greatest layer", "tell 0 4 0 5 0; tell 1 4 0 6 0; setLayer 1 3; value 0 = 6; setLayer 0 3; value 0 = -1",
                "setLayer 1 2; value 0 = 5; tell 2 3 0 5 0; value 0 = -1");
        Runs.run("defaults, no lower layer in place of it", "tell 0 4 0 5 0; tell 1 4 0 60 0; setLayer 1 1; value 0 = 60; tell 2 1 0 0 9 = 2; value 0 = -1",
                "tell 1 4 0 7 0; value 0 = 7; tell 1 4 0 8 0; value 0 = -1");
        Runs.run("defaults, layers of those that count", "tell 0 4 0 5 0; tell 1 7 3 1 0; tell 1 4 0 6 0; setLayer 1 1; value 0 = 5; tell 2 0 3 1 0; value 0 = 6");
        Runs.run("defaults of packages", "draft 0 4 0 5 0; publish 0; tell 0 12 0 1 0; value 0 = 5; tell 1 4 0 6 0 = 2; value 0 = 6; remove 2; value 0 = 5",
                "tell 1 4 0 63 0; tell 2 1 0 0 9; value 0 = -1");
        Runs.run("defaults of two packages", "draft 0 4 0 5 0; publish 0; draft 2 4 0 6 0; publish 2; tell 0 12 0 1 0; tell 0 12 2 1 0 = 3; value 0 = -1",
                "tell 1 3 0 6 0; value 0 = 5");
    }

    private static void defaultsThatYield() {
        Runs.run("defaults that yield", "tell 0 4 0 5 0; tell 0 7 0 5 0; tell 0 0 1 3 0; tell 1 0 1 4 0; value 0 = -1; value 1 = 4; set 0 = 640063",
                "tell 2 4 2 7 0; value 2 = 7; conflict = 0");
        Runs.run("defaults that yield leave all as before", "tell 0 4 0 5 0; tell 0 5 1 0 1; tell 0 4 1 8 0; tell 1 7 0 5 0; tell 1 3 1 6 0; value 0 = 7; value 1 = 8");
        Runs.run("defaults that do not yield narrow the sets of others", "tell 0 6 0 1 0; tell 0 4 0 61 0; tell 0 4 1 3 0; value 0 = 61; value 1 = -1",
                "tell 0 4 1 62 0; value 1 = 62");
    }

    private static void setAndSetAnew() {
        Runs.run("promises 12 and 13", "set -1 ! index; set 10 ! index; setAnew -1 ! index; setAnew 10 ! index; tell 0 0 0 63 0; set 0 = 16363; setAnew 0 = 16363",
                "tell 0 3 1 0 0; set 1 = 630163; setAnew 1 = 630163; tell 0 0 0 62 0; set 0 = 0; setAnew 0 = 0; set 1 = 630163; setAnew 1 = 630163");
        Runs.run("promises 12 and 13, without defaults", "tell 0 4 0 5 0; set 0 = 640063; setAnew 0 = 640063; value 0 = 5; setAnew 0 = 640063");
        Runs.run("promise 13, guards and faults", "tell 1 7 2 5 0; tell 1 0 3 6 0; tell 1 0 2 5 0; setAnew 3 = 10606; lock 2 3; setAnew 3 = 640063; setAnew 2 = 640063",
                "lock 2 -1; setAnew 3 = 10606; remove 1; setAnew 3 = 640063; setAnew 2 = 640063; remove 0; setAnew 2 = 10505");
        Runs.run("promise 13, asked between", "tell 0 0 0 1 0; setAnew 0 = 10101; value 0 = 1; tell 0 4 1 5 0; setAnew 1 = 640063; value 1 = 5; conflict = 0");
    }

    private static void conflict() {
        Runs.run("promise 14", "conflict = 0; tell 0 0 0 5 0; conflict = 0; tell 0 4 1 1 0; tell 0 0 0 6 0 = 2; conflict = 5; remove 2; conflict = 0",
                "tell 0 5 2 0 1; tell 0 1 2 7 9; conflict = 25; tell 0 6 3 3 0; conflict = 32");
        Runs.run("promise 14, three", "tell 0 5 1 0 5; tell 0 1 0 0 3; tell 0 1 1 9 63; conflict = 7");
        Runs.run("promise 14, more than three", "tell 0 5 1 0 5; tell 0 5 2 1 5; tell 0 1 0 0 3; tell 0 1 2 14 63; conflict = -1; value 0 = -2",
                "tell 0 5 2 0 11; conflict = 19");
        Runs.run("promise 14, guards held for true", "tell 0 7 0 5 0 = 0; tell 0 0 1 3 0 = 1; tell 1 0 1 4 0 = 2; conflict = 0; tell 1 0 0 5 0 = 3; conflict = 6");
        Runs.run("promise 14, those that count alone", "tell 0 7 0 5 0 = 0; tell 0 0 1 3 0 = 1; tell 1 0 1 4 0 = 2; tell 1 0 2 5 0 = 3; tell 1 0 2 6 0 = 4; conflict = 24");
        Runs.run("promise 14, those not at fault", "tell 0 0 1 3 0 = 0; tell 1 0 1 4 0 = 1; tell 1 0 1 5 0 = 2; conflict = 3; tell 1 10 1 0 0 = 3; conflict = 6",
                "remove 2; conflict = 0");
        Runs.run("promise 14, the number 29", "tell 0 0 0 0 0", "tell 0 4 0 0 0;".repeat(28), "tell 0 0 0 1 0 = 29; conflict = 536870913");
    }

    private static void leastConflictAmongSeveral() {
        Runs.run("promise 14, the least number of two", "tell 0 0 5 1 0; tell 0 0 6 1 0; tell 0 0 6 2 0; tell 0 0 5 2 0; conflict = 6");
        Runs.run("promise 14, the least number of two with one greatest", "tell 0 0 5 1 0; tell 0 0 5 1 0; tell 0 0 5 2 0; conflict = 5");
        Runs.run("promise 14, fewer first", "tell 0 5 1 0 5; tell 0 1 0 0 3; tell 0 1 1 9 63; tell 0 0 7 1 0; tell 0 0 7 2 0; conflict = 24");
        Runs.run("promise 14, the least number of three", "tell 0 1 0 0 3; tell 0 1 4 0 3; tell 0 5 1 0 5; tell 0 5 5 4 5; tell 0 1 5 9 63; tell 0 1 1 9 63; conflict = 26");
        Runs.run("promise 14, three where two share no field", "tell 0 1 0 0 3; tell 0 1 1 9 63; tell 0 5 1 0 5; conflict = 7");
        Runs.run("promise 14, three in a row", "tell 0 6 0 1 0; tell 0 6 1 2 0; tell 0 6 2 0 0; conflict = 7");
        Runs.run("promise 14, three of one field", "tell 0 2 0 1 2; tell 0 2 0 2 3; tell 0 2 0 3 1; conflict = 7");
        Runs.run("promise 14, a ring that does not close", "tell 0 5 2 0 0; tell 0 5 2 1 0; tell 0 5 1 0 12; conflict = 7");
        Layerwright object = new Layerwright();
        for (int i = 0; i < 30; i++) Runs.more(object, "promise 14, thirty", "tell 0 6 " + i % 5 + " " + (i + 1) % 5 + " 0 = " + i);
        Runs.more(object, "promise 14, thirty", "conflict = -1; value 9 = -2; remove 0; conflict = -1");
        Runs.run("promise 14, joined one way round", "tell 0 5 0 1 1; tell 0 0 0 1 0; tell 0 3 1 0 0; conflict = 7");
    }

    private static void policy() {
        Runs.run("promise 15", "policy -1 0 0 ! index; policy 10 0 0 ! index; policy 0 -1 0 ! argument; policy 0 64 64 ! argument; policy 0 0 64 ! argument",
                "policy 0 5 4 ! argument; policy 10 5 4 ! index; policy 0 0 63 = 0; policy 9 63 63 = 1; policy 0 0 0 = 2; policy 0 4 5 = 3; policy 0 0 63 = 4",
                "policy 0 0 63 = 5; policy 0 0 63 = 6; policy 0 0 63 = 7; policy 0 0 63 ! state; policy 0 5 4 ! argument; policy 10 0 0 ! index",
                "proof 7 = -1; proof 8 ! index; proof 2 = 1; proof 3 = 0");
    }

    private static void proof() {
        Runs.run("promise 16", "proof 0 ! index; policy 0 4 9 = 0; proof -1 ! index; proof 1 ! index; proof 0 = 0; tell 0 1 0 3 9; proof 0 = 3; tell 0 3 0 3 0",
                "proof 0 = -1; policy 0 4 8 = 1; proof 1 = 9; policy 0 5 8 = 2; proof 2 = 4; policy 0 6 6 = 3; proof 3 = 4; policy 1 0 63 = 4; proof 4 = -1",
                "tell 0 0 0 1 0; proof 0 = -2; proof 4 = -1");
        Runs.run("promise 16, ahead of defaults", "policy 0 5 5; tell 0 4 0 5 0; proof 0 = 0; tell 0 2 0 5 63; proof 0 = 63; tell 0 0 0 5 0; proof 0 = -1",
                "policy 1 0 63; tell 1 0 2 1 0; tell 1 0 2 2 0; proof 0 = -1; proof 1 = -1; policy 2 0 63 = 2; proof 2 = -2");
    }

    private static void tainted() {
        Runs.run("promise 17", "tainted = 0; tell 0 11 3 0 0 = 0; tainted = 8; tell 0 11 9 0 0 = 1; tainted = 520; remove 0; tainted = 512; draft 0 11 0 0 0 = 2",
                "tainted = 512; publish 0; tainted = 512; tell 0 12 0 1 0; tainted = 513");
        Runs.run("promise 17, joined", "tell 0 11 0 0 0; tell 0 5 1 0 1; tainted = 3; tell 0 6 1 2 0; tainted = 7; tell 0 6 3 2 0; tainted = 15; tell 0 5 5 4 1; tainted = 15",
                "tell 0 5 4 3 1; tainted = 63; conflict = 0");
        Runs.run("promise 17, joined the other way round", "tell 0 11 0 0 0; tell 0 5 0 1 1; tainted = 3; tell 0 6 1 2 0; tainted = 7");
        Runs.run("promise 17, the first statement joins", "tell 0 6 1 2 0; tell 0 5 2 3 0; tell 0 11 3 0 0; tainted = 14; tell 1 7 3 1 0; tell 1 4 9 1 0; tainted = 526");
        Runs.run("promise 17, those that count", "tell 0 11 0 0 0; tell 1 7 5 1 0; tell 1 5 1 0 0 = 2; tainted = 1; tell 2 0 5 1 0 = 3; tainted = 3; lock 1 3; tainted = 1; lock 1 -1",
                "tell 3 10 1 0 0; tainted = 1");
        Runs.run("promise 17, not by defaults", "tell 0 11 0 0 0; tell 1 7 5 1 0; tell 1 5 1 0 0 = 2; tell 2 4 5 1 0; value 5 = 1; tainted = 1");
        Runs.run("promise 17, with a conflict", "tell 0 11 0 0 0; tell 0 0 5 1 0; tell 0 0 5 2 0; tell 1 7 5 9 0; tell 1 5 1 0 0; tainted = 3");
    }

    private static void taintedByGuards() {
        for (int kind = 0; kind <= 4; kind++) {
            Runs.run("promise 17, guarded", "tell 0 11 0 0 0; tell 0 7 0 5 0; tell 0 " + kind + " 3 0 0 = 2; standing 2 = 10; tainted = 9; lock 3 3",
                    "tainted = " + (kind == 4 ? 9 : 1));
        }
        Runs.run("promise 17, guarded joins", "tell 0 11 0 0 0; tell 0 7 0 5 0; tell 0 5 3 4 0 = 2; standing 2 = 10; tainted = 25; tell 1 7 4 1 0; tell 1 6 5 6 0; tainted = 121");
        Runs.run("promise 17, guards that are not tainted", "tell 0 11 0 0 0; tell 0 7 1 5 0; tell 0 0 3 4 0; tainted = 1; tell 1 7 3 5 0; tell 1 0 1 1 0; tainted = 1",
                "tell 2 5 1 0 0; tainted = 11");
        Runs.run("promise 17, guards of other kinds", "tell 0 11 0 0 0; tell 0 7 0 5 0; tell 0 8 3 0 0; tell 0 7 0 5 0; tell 0 10 4 0 0; tell 0 7 0 5 0; tainted = 1");
        Runs.run("promise 17, guards at work", "tell 0 11 0 0 0; tell 0 0 0 5 0; tell 0 7 0 5 0; tell 0 0 3 4 0; tainted = 9; value 3 = 4");
    }
}

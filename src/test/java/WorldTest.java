/** Promises 37 to 46: entry, stored, real, resources, change, destroy, make, read, move, take. */
final class WorldTest {
    private WorldTest() {
    }

    public static void main(String[] args) {
        entryAndStored();
        realAndResources();
        change();
        destroy();
        make();
        read();
        readAdopting();
        readInOrder();
        move();
        take();
        Runs.end();
    }

    private static void entryAndStored() {
        Runs.run("promises 37 and 38", "entry 0 ! index; stored 0 0 ! index; generator 0; entry -1 ! index; entry 16 ! index; entry 0 = -1; stored 0 0 ! index; stored 16 0 ! index; stored -1 0 ! index; make 0; make 0; change 1 2 255; take 15 1",
                "entry 15 = 100; stored 15 0 = 0; stored 15 2 = 255; stored 15 3 ! index; stored 15 -1 ! index; stored 14 0 ! index; change 1 2 3; stored 15 2 = 255; destroy 1; entry 15 = 100; stored 15 2 = 255");
        Runs.run("promise 37, adopted and tainted", "setType 0 0 0 0 0 1; generator 0; key 0 0 3; plan 0; approve 0 1; apply 0; step 1; entry 3 = 1; change 0 0 1; change 0 1 1; change 0 2 1; read = 3; entry 3 = 71; make 0; take 4 1; entry 4 = 100; change 1 2 5; read = 1; entry 4 = 100; entry 3 = 71");
    }

    private static void realAndResources() {
        Runs.run("promises 39 and 40", "resources = 0; real 0 0 ! index; make 1 = 0; resources = 1; real 0 0 = 0; real 0 3 ! index; real 0 -1 ! index; real -1 0 ! index; real 1 0 ! index; change 0 1 9; real 0 1 = 9; real 0 0 = 0; real 0 2 = 0",
                "destroy 0; real 0 1 = -1; real 0 3 ! index; resources = 1; make 2 = 1; resources = 2; real 1 0 = 0");
    }

    private static void change() {
        Runs.run("promise 41", "change 0 0 0 ! index; make 0; change 0 3 0 ! index; change 0 -1 0 ! index; change -1 0 0 ! index; change 1 0 0 ! index; change 0 3 256 ! index; change 0 0 256 ! argument; change 0 0 -1 ! argument; change 0 0 255 = 0; change 0 0 0 = 255",
                "change 0 2 7 = 0; real 0 0 = 0; real 0 2 = 7; destroy 0; change 0 0 1 ! state; change 0 0 256 ! argument; change 0 3 1 ! index; serial = 0");
    }

    private static void destroy() {
        Runs.run("promise 42", "destroy 0 ! index; make 0; destroy -1 ! index; destroy 1 ! index; destroy 0 = 1; destroy 0 = 0; destroy 0 = 0; resources = 1; serial = 0; make 0 = 1; destroy 1 = 1; destroy 0 = 0");
    }

    private static void make() {
        Layerwright object = Runs.run("promise 43", "make -1 ! index; make 3 ! index");
        for (int i = 0; i < 60; i++) Runs.more(object, "promise 43, sixty", "make " + i % 3 + " = " + i);
        Runs.more(object, "promise 43, sixty", "make 0 ! state; make 3 ! index; destroy 59 = 1; make 0 ! state; resources = 60; real 58 2 = 0; change 58 2 9 = 0; real 58 2 = 9; real 59 2 = -1; serial = 0");
    }

    private static void read() {
        Runs.run("promise 44", "read = 0; serial = 0; setType 0 0 2 4 0 0; tell 0 0 0 5 0; generator 0; bind 0 0 0; key 0 0 3; key 0 0 4; plan 0; approve 0 1; apply 0; read ! state; step 0; step 0; read = 0; change 0 0 9; change 0 1 8; change 0 2 7; read = 2; serial = 3",
                "stored 3 0 = 9; stored 3 1 = 8; stored 3 2 = 0; entry 3 = 0; pending = 1; read = 0; serial = 3; change 1 0 1; destroy 0; read = 101; serial = 4; entry 3 = -1; entry 4 = 100; stored 4 0 = 1; read = 0");
        Runs.run("promise 44, no entry", "make 0; change 0 0 9; read = 0; destroy 0; read = 0; serial = 0; generator 0; key 0 0 3; read = 0");
        Runs.run("promise 44, the name 0", "generator 0; make 0; take 0 0; change 0 0 9; read = 1; stored 0 0 = 9; destroy 0; read = 100; entry 0 = -1");
        Runs.run("promise 44, no key", "generator 0; make 0; take 3 0; change 0 0 9; read = 1; stored 3 0 = 9; destroy 0; read = 100; entry 3 = -1");
        Runs.run("promise 44, write-only", "setType 0 4 6 0 0 1; generator 0; key 0 0 3; plan 0; approve 0 1; apply 0; step 0; change 0 0 9; change 0 1 9; read = 0; stored 3 0 = 0; stored 3 1 = 3; entry 3 = 0");
        Runs.run("promise 44, a value back to what it was", "generator 0; make 0; take 3 0; change 0 0 9; change 0 0 0; read = 0; serial = 1");
        Runs.run("promise 44, tainted entries stay so", "generator 0; key 0 0 3; plan 0; approve 0 1; apply 0; step 1; change 0 0 9; read = 1; entry 3 = 1");
    }

    private static void readAdopting() {
        String start = "setType 0 0 2 0 0 1; tell 0 0 0 5 0; generator 0; bind 0 0 0; key 0 0 3; plan 0; approve 0 1; apply 0; step 0";
        Runs.run("adopting", start, "change 0 0 9; read = 1; entry 3 = 10; stored 3 0 = 9; pending = 0; change 0 0 5; read = 1; entry 3 = 10; pending = 0; remove 0; tell 0 0 0 6 0; pending = 1; change 0 0 8; read = 1; entry 3 = 10; pending = 0");
        Runs.run("adopting, without a source", start, "change 0 2 9; read = 1; entry 3 = 40; pending = 0; bind 0 2 0; pending = 1");
        Runs.run("adopting, computed", start, "change 0 1 9; read = 1; entry 3 = 20; stored 3 1 = 9; pending = 0");
        Runs.run("adopting, the source gives nothing", start, "change 0 0 9; remove 0; read = 1; entry 3 = 0; stored 3 0 = 9; tell 0 0 0 5 0; pending = 1");
        Runs.run("adopting, a conflict", start, "change 0 0 9; change 0 2 9; tell 0 0 4 5 0; tell 0 0 4 6 0; read = 2; entry 3 = 40");
        Runs.run("adopting, no key", start, "change 0 0 9; unkey 0 0; read = 1; entry 3 = 0; key 0 0 3; pending = 1");
        Runs.run("adopting, no more, attribute by attribute", "setType 0 0 0 0 0 1; tell 0 0 0 5 0; generator 0; bind 0 1 0; bind 0 2 0; key 0 0 3; plan 0; approve 0 1; apply 0; step 0; change 0 1 9; change 0 2 9; read = 2; entry 3 = 60; change 0 2 8; unkey 0 0; read = 1; entry 3 = 20; change 0 1 8; read = 1; entry 3 = 0");
        Runs.run("adopting, no more", start, "change 0 0 9; read = 1; entry 3 = 10; change 0 0 8; remove 0; read = 1; entry 3 = 0; stored 3 0 = 8");
        Runs.run("adopting, an attribute that forces", "setType 0 1 0 0 0 1; tell 0 0 0 5 0; generator 0; bind 0 0 0; key 0 0 3; plan 0; approve 0 1; apply 0; step 0; change 0 0 9; read = 1; pending = 0; remove 0; tell 0 0 0 6 0; pending = 2; plan 0; approve 1 1; apply 1; step 0; step 0; entry 3 = 100; stored 3 0 = 6");
        Runs.run("mending", "tell 0 0 0 5 0; generator 0; bind 0 0 0; key 0 0 3; plan 0; approve 0 1; apply 0; step 0; change 0 0 9; read = 1; entry 3 = 0; pending = 1; plan 0; approve 1 1; apply 1; step 0 = 203; real 0 0 = 5; stored 3 0 = 5");
    }

    private static void readInOrder() {
        String start = "setType 0 2 1 0 0 0; setType 1 0 0 0 0 1; generator 0; generator 1; bind 1 0 10; key 0 0 3; key 1 0 3; plan 0; approve 0 1; apply 0; step 0; step 0; stored 19 0 = 3";
        Runs.run("read by rising names, what a drift gives", start, "change 0 0 9; change 1 0 20; read = 2; entry 19 = 110; given 19 0 = 9; pending = 0; change 0 0 3; read = 1; pending = 1");
        Runs.run("read by rising names, what is dropped gives nothing", start, "destroy 0; change 1 0 20; read = 101; entry 19 = 100; stored 19 0 = 20");
        Runs.run("read by rising names, what is replaced gives nothing", start, "change 0 1 9; change 1 0 20; read = 2; entry 19 = 100; pending = 3");
        Runs.run("read by rising names, the higher one first", start, "change 1 0 20; destroy 1; change 0 0 4; read = 101; serial = 3");
    }

    private static void move() {
        Runs.run("promise 45", "move 0 1 ! index; generator 0; generator 1; generator 0; move -1 0 ! index; move 0 -1 ! index; move 48 0 ! index; move 0 48 ! index; move 3 4 ! state; make 0; change 0 1 5; take 3 0 = 1; move 3 3 ! state; move 3 16 ! state; move 3 4 = 2; serial = 2",
                "entry 3 = -1; entry 4 = 0; stored 4 1 = 5; move 3 5 ! state; move 4 47 = 3; entry 47 = 0; entry 4 = -1; make 0; take 4 1 = 4; move 4 47 ! state; move 47 4 ! state; move 4 3 = 5; move 47 31 ! state");
        Runs.run("promise 45, with all that it has", "setType 0 0 0 0 0 1; generator 0; key 0 0 3; key 0 0 4; plan 0; approve 0 1; apply 0; step 1; step 0; unkey 0 0; change 0 2 9; read = 1; entry 3 = 41; move 3 9 = 4; entry 9 = 41; stored 9 2 = 9; entry 3 = -1; key 0 0 9; pending = 4");
        Runs.run("promise 45, locked", "generator 0; key 0 0 3; make 0; take 4 0; plan 0; approve 0 1; apply 0; move 4 5 ! state; move 4 16 ! index; step 0; move 4 5 ! state; step 0; move 3 6 = 4");
        Runs.run("promise 45, a plan before it", "generator 0; key 0 0 3; make 0; take 4 0; plan 0; action 0 0 = 103; action 0 1 = 304; move 4 3; isStale 0 = 1; rebase 0 = 0; pending = 0");
    }

    private static void take() {
        Runs.run("promise 46", "take 0 0 ! index; generator 0; take 0 0 ! index; make 0; make 1; make 0; take -1 0 ! index; take 16 0 ! index; take 0 -1 ! index; take 0 3 ! index; take 0 1 ! state; take 0 0 = 1; take 1 0 ! state; take 0 2 ! state; take 15 2 = 2",
                "entry 0 = 0; entry 15 = 200; move 0 1; take 0 0 ! state; generator 1; take 16 0 ! state; take 31 1 = 4; entry 31 = 100; make 0; destroy 3; take 0 3 ! state; destroy 0; take 0 0 ! state; serial = 4");
        Runs.run("promise 46, the values", "setType 0 0 4 6 0 1; generator 0; key 0 0 3; make 0; change 0 0 7; change 0 1 8; change 0 2 9; take 3 0 = 1; stored 3 0 = 7; stored 3 1 = 0; stored 3 2 = 0; entry 3 = 0; real 0 1 = 8; read = 0; pending = 1");
        Runs.run("promise 46, write-only after an upgrade", "setType 0 4 0 0 0 0; generator 0; upgrade 0; make 0; change 0 0 7; change 0 1 8; take 3 0; stored 3 0 = 7; stored 3 1 = 0");
        Runs.run("promise 46, locked", "generator 0; key 0 0 3; make 0; plan 0; approve 0 1; apply 0; take 4 0 ! state; take 4 2 ! index; step 2; take 4 0 ! state; pass 3; take 4 0 = 1; take 3 1 = 2; pending = 1");
        Runs.run("promise 46, a resource whose entry was dropped", "setType 0 1 0 0 1 0; tell 0 0 0 5 0; generator 0; bind 0 0 0; key 0 0 3; make 0; take 3 0; plan 0; approve 0 1; apply 0; step 1; take 4 0 = 3; take 5 1 ! state");
    }
}

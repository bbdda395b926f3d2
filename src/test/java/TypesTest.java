/** Promises 18 to 24: setType, generator, key, unkey, bind, upgrade, given. */
final class TypesTest {
    private TypesTest() {
    }

    public static void main(String[] args) {
        setType();
        generator();
        key();
        unkey();
        bind();
        upgrade();
        upgradeTurnsWhatIsStored();
        upgradeTurnsAdopted();
        upgradeTurnsSources();
        given();
        givenByAttributes();
        Runs.end();
    }

    private static void setType() {
        Runs.run("promise 18", "setType -1 0 0 0 0 0 ! index; setType 3 0 0 0 0 0 ! index; setType 3 8 0 0 0 0 ! index; setType 0 8 0 0 0 0 ! argument",
                "setType 0 0 8 0 0 0 ! argument; setType 0 0 0 8 0 0 ! argument; setType 0 -1 0 0 0 0 ! argument; setType 0 0 -1 0 0 0 ! argument",
                "setType 0 0 0 -1 0 0 ! argument; setType 0 7 7 7 1 1; setType 0 0 0 0 0 0; generator 0 = 0; setType 0 0 0 0 0 0 ! state",
                "setType 0 8 0 0 0 0 ! argument; setType 1 1 2 4 1 1; make 1 = 0; setType 1 0 0 0 0 0 ! state; destroy 0 = 1; setType 1 0 0 0 0 0 ! state",
                "setType 2 1 2 4 0 0; setType 3 0 0 0 0 0 ! index");
        Runs.run("promise 18, computed", "setType 0 0 0 2 0 0; generator 0; bind 0 2 0 ! state; bind 0 0 0 = -1; bind 0 1 0 = -1");
        Runs.run("promise 18, computed and others", "setType 0 2 6 7 0 0; generator 0; bind 0 0 0 ! state; bind 0 1 0 ! state; bind 0 2 0 ! state");
        Runs.run("promise 18, in place of what it was", "setType 0 2 2 2 1 1; setType 0 0 0 1 0 0; generator 0; bind 0 0 0; key 0 0 0; tell 0 0 0 5 0; make 0; take 0 0",
                "pending = 1; bind 0 0 -1; bind 0 2 0; pending = 2; plan 0; action 0 0 = 300; action 0 1 = 100");
        Runs.run("promise 18, another type", "setType 1 2 0 0 1 1; generator 0 = 0; bind 0 0 0 = -1; generator 1 = 1; bind 1 0 0 ! state");
    }

    private static void generator() {
        Runs.run("promise 19", "generator -1 ! index; generator 3 ! index; generator 2 = 0; generator 0 = 1; generator 0 = 2; generator 1 = 3; generator 0 ! state",
                "generator 3 ! index; entry 63 = -1; entry 64 ! index; pending = 0; given 63 2 = 0");
        Runs.run("promise 19, names", "entry 0 ! index; generator 0; entry 0 = -1; entry 15 = -1; entry 16 ! index; entry -1 ! index; generator 0; entry 31 = -1; entry 32 ! index");
    }

    private static void key() {
        Runs.run("promise 20", "key 0 0 0 ! index; generator 0; key -1 0 0 ! index; key 1 0 0 ! index; key 0 -1 0 ! index; key 0 1 0 ! index; key 0 1 16 ! index",
                "key 0 0 16 ! argument; key 0 0 -1 ! argument; key 0 0 15 = 1; key 0 0 15 ! state; key 0 1 15 ! state; key 0 2 3 ! index; key 0 0 0 = 2",
                "key 0 1 7 = 3; unkey 0 0 = 0; unkey 0 0 = 7; unkey 0 0 = 15; key 0 0 15 = 1");
        Runs.run("promise 20, places", "generator 0; key 0 0 5 = 1; key 0 1 6 = 2; key 0 0 4 = 3; key 0 2 9 = 4; unkey 0 0 = 4; unkey 0 0 = 5; unkey 0 0 = 9; unkey 0 0 = 6");
        Runs.run("promise 20, eight keys", "generator 0; key 0 0 0; key 0 0 1; key 0 0 2; key 0 0 3; key 0 0 4; key 0 0 5; key 0 0 6 = 7; key 0 7 7 = 8; key 0 0 8 ! state; key 0 8 8 ! state",
                "key 0 0 7 ! state; key 0 9 8 ! index; key 0 0 16 ! argument; pending = 8; unkey 0 7 = 7; key 0 7 8 = 8; generator 0; key 1 0 8 = 1");
        Runs.run("promise 20, the names", "generator 0; generator 0; key 1 0 9; key 1 0 3; key 0 0 9; plan 0; action 0 0 = 109; action 0 1 = 119; action 0 2 = 125; pending = 3");
    }

    private static void unkey() {
        Runs.run("promise 21", "unkey 0 0 ! index; generator 0; unkey 0 0 ! index; unkey -1 0 ! index; unkey 1 0 ! index; key 0 0 5; key 0 1 7; unkey 0 2 ! index; unkey 0 -1 ! index",
                "unkey 0 1 = 7; unkey 0 1 ! index; pending = 1; unkey 0 0 = 5; pending = 0; unkey 0 0 ! index");
    }

    private static void bind() {
        Runs.run("promise 22", "bind 0 0 0 ! index; setType 0 0 2 0 0 0; generator 0; bind 0 -1 0 ! index; bind 0 3 0 ! index; bind -1 0 0 ! index; bind 1 0 0 ! index",
                "bind 0 0 -2 ! index; bind 0 0 10 ! index; bind 0 0 9 = -1; bind 0 0 -1 = 9; bind 0 0 -1 = -1; bind 0 2 3 = -1; bind 0 2 4 = 3",
                "bind 0 1 0 ! state; bind 0 1 -1 ! state; bind 0 1 10 ! index; generator 0; bind 1 0 11 = -1; bind 1 0 10 ! state; bind 1 0 12 ! state; bind 1 0 13 ! index",
                "bind 1 0 0 = 11; bind 1 0 11 = 0; bind 1 1 11 ! state; generator 2; bind 2 0 14 = -1; bind 2 1 11 = -1; bind 2 2 16 ! index; bind 2 2 15 ! state; bind 2 1 5 = 11");
        Runs.run("promise 22, the order of exceptions", "setType 0 2 0 0 0 0; generator 0; bind 0 0 10 ! index; bind 0 0 -2 ! index; bind 0 0 2147483647 ! index; bind 0 0 -2147483648 ! index");
    }

    private static void upgrade() {
        Runs.run("promise 23", "upgrade -1 ! index; upgrade 3 ! index; upgrade 0 = 1; serial = 1; upgrade 2 = 1; serial = 2; upgrade 0 = 2; serial = 3; upgrade 0 ! state; upgrade 2 = 2; upgrade 1 = 1");
        Runs.run("promise 23, locked", "generator 0; key 0 0 0; plan 0; approve 0 1; apply 0; upgrade 0 ! state; upgrade 1 ! state; upgrade 3 ! index; step 2; upgrade 0 ! state; pass 3; upgrade 0 = 1");
        Runs.run("promise 23, what attributes are", "setType 0 2 1 0 0 0; generator 0; bind 0 0 0 ! state; upgrade 0; bind 0 0 0 = -1; bind 0 1 0 ! state; key 0 0 0; tell 0 0 0 5 0; make 0; take 0 0",
                "pending = 2; upgrade 0; bind 0 0 0 ! state; bind 0 1 0 = 0; pending = 2");
        Runs.run("promise 23, other types", "setType 1 2 0 0 0 0; generator 0; bind 0 0 0; upgrade 1 = 1; bind 0 0 1 = 0; generator 1; bind 1 0 3 = -1; bind 1 1 3 ! state; tell 0 0 1 5 0; given 0 0 = 5");
        Runs.run("promise 23, a plan before it is stale", "generator 0; key 0 0 0; plan 0; isStale 0 = 0; upgrade 0; isStale 0 = 1; rebase 0 = 1; isStale 0 = 0");
    }

    private static void upgradeTurnsWhatIsStored() {
        Layerwright object = Runs.run("upgrade", "setType 0 0 0 4 0 0; tell 0 0 0 5 0; tell 0 0 1 6 0; tell 0 0 2 7 0; generator 0; bind 0 0 0; bind 0 1 1; bind 0 2 2; key 0 0 3",
                "plan 0; approve 0 1; apply 0; step 0; make 0 = 1; change 1 0 3; change 1 1 4; change 1 2 5; make 1 = 2; change 2 0 9; change 2 1 8; change 2 2 7");
        Runs.more(object, "upgrade", "upgrade 0 = 1; serial = 2; stored 3 0 = 12; stored 3 1 = 10; stored 3 2 = 14; real 0 0 = 12; real 0 1 = 10; real 0 2 = 14",
                "real 1 0 = 8; real 1 1 = 6; real 1 2 = 10; real 2 0 = 9; real 2 1 = 8; real 2 2 = 7; given 3 0 = 12; given 3 1 = 10; given 3 2 = 14; pending = 0; read = 0",
                "upgrade 0 = 2; stored 3 0 = 20; stored 3 1 = 24; stored 3 2 = 28; real 0 0 = 20; real 0 1 = 24; real 0 2 = 28; given 3 0 = 20; given 3 1 = 24; pending = 0; read = 0");
        Runs.run("upgrade, what is made later", "setType 0 0 2 0 0 0; tell 0 0 0 63 0; generator 0; bind 0 0 0; key 0 0 3; upgrade 0; upgrade 0; plan 0; approve 0 1; apply 0; step 0",
                "real 0 0 = 252; real 0 1 = 12; stored 3 0 = 252; stored 3 1 = 12; pending = 0; read = 0; make 0 = 1; real 1 0 = 0; change 1 0 255 = 0; real 1 0 = 255");
    }

    private static void upgradeTurnsAdopted() {
        Runs.run("upgrade, adopted", "setType 0 0 0 0 0 1; tell 0 0 0 5 0; generator 0; bind 0 0 0; key 0 0 3; plan 0; approve 0 1; apply 0; step 0; change 0 0 9; read = 1; entry 3 = 10; pending = 0",
                "upgrade 0; entry 3 = 20; stored 3 1 = 18; pending = 0; change 0 2 1; read = 1; entry 3 = 60; upgrade 0; entry 3 = 50; stored 3 0 = 36; stored 3 2 = 2; pending = 0",
                "remove 0; tell 0 0 0 9 0; pending = 0; given 3 0 = 36; remove 1; tell 0 0 0 8 0; pending = 1; remove 2; tell 0 0 0 5 0; pending = 0");
        Layerwright object = Runs.run("upgrade, sixty resources", "generator 0; key 0 0 0");
        for (int i = 0; i < 60; i++) Runs.more(object, "upgrade, sixty resources", "make " + i % 2 + " = " + i);
        Runs.more(object, "upgrade, sixty resources", "change 58 0 7; change 59 0 7; change 0 2 3; take 0 0; upgrade 0 = 1; real 58 0 = 0; real 58 1 = 14; real 59 0 = 7; stored 0 2 = 6; real 0 2 = 6; upgrade 1 = 1; real 59 1 = 14; real 58 1 = 14");
        Runs.run("upgrade, another type's entries", "generator 0; generator 1; key 0 0 3; make 0; change 0 0 5; take 3 0; bind 0 0 0; tell 0 0 0 5 0; upgrade 1; stored 3 0 = 5; stored 3 1 = 0; given 3 0 = 5; pending = 0");
    }

    private static void upgradeTurnsSources() {
        String made = "setType 0 2 0 2 0 0; generator 0; generator 1; key 0 0 3; key 1 0 3; bind 1 0 10; bind 1 1 12; plan 0; approve 0 1; apply 0; step 0; step 0; stored 19 0 = 3; stored 19 1 = 3";
        Runs.run("upgrade of the source's type", made, "upgrade 0; stored 3 0 = 0; stored 3 1 = 6; stored 3 2 = 6; given 19 0 = 3; given 19 1 = 3; pending = 0; bind 1 0 11 = 11; bind 1 1 12 = 12",
                "bind 1 2 10 ! state; upgrade 0; bind 1 0 10 = 10; given 19 0 = 3; stored 3 0 = 12; pending = 0");
        Runs.run("upgrade of the own type", made, "upgrade 1; given 19 0 = 6; given 19 1 = 6; stored 19 0 = 6; pending = 0; bind 1 0 12 = 12; bind 1 1 10 = 10; upgrade 1; bind 1 0 10 = 10; bind 1 1 12 = 12; given 19 0 = 12");
        Runs.run("upgrade of both types", made, "upgrade 0; upgrade 1; upgrade 1; given 19 0 = 12; given 19 1 = 12; pending = 0; change 0 1 9; read = 1; given 19 0 = 16; given 19 1 = 12; pending = 1");
        Runs.run("upgrade of one type with sources of its own", "setType 0 2 0 0 0 0; generator 0; generator 0; key 0 0 1; key 1 0 1; bind 1 1 10; bind 1 2 10; plan 0; approve 0 1; apply 0; step 0; step 0; stored 17 1 = 1",
                "upgrade 0; given 17 0 = 2; given 17 2 = 2; stored 17 0 = 2; pending = 0; bind 1 0 11 = 11; bind 1 2 -1 = 11; bind 1 1 -1 ! state");
        Runs.run("upgrade, fields keep their numbers", "generator 0; bind 0 0 0; bind 0 1 1; bind 0 2 9; upgrade 0; bind 0 0 5 = 1; bind 0 1 5 = 0; bind 0 2 5 = 9");
    }

    private static void given() {
        Runs.run("promise 24, the value 0", "tell 0 0 0 0 0; generator 0; bind 0 1 0; given 0 1 = 0; key 0 0 3; pending = 1; differing = 1; upgrade 0; given 3 0 = 0");
        Runs.run("promise 24", "given 0 0 ! index; setType 0 2 0 0 0 0; generator 0; given -1 0 ! index; given 16 0 ! index; given 0 -1 ! index; given 0 3 ! index; given 15 2 = 0",
                "given 0 0 = 0; given 0 1 = 0; bind 0 1 4; given 0 1 = -1; tell 0 0 4 9 0; given 0 1 = 9; given 7 1 = 9; given 0 2 = 0; tell 0 0 5 1 0; tell 0 0 5 2 0; given 0 1 = -1; given 0 2 = 0",
                "remove 2; given 0 1 = 9; remove 0; tell 0 4 4 8 0; given 0 1 = 8");
    }

    private static void givenByAttributes() {
        Layerwright object = Runs.run("promise 24, attributes", "setType 0 1 2 0 0 0; tell 0 0 0 5 0; generator 0; generator 1; bind 0 0 0; bind 1 0 11; key 0 0 3; key 1 0 3; given 19 0 = -1; given 20 0 = -1",
                "plan 0; approve 0 1; apply 0; given 19 0 = -1; step 0; given 19 0 = 3; step 0; given 19 0 = 3; pending = 0");
        Runs.more(object, "promise 24, to be replaced", "remove 0; tell 0 0 0 6 0; given 19 0 = -1; tell 0 0 0 7 0; given 19 0 = -1; remove 2; remove 1; given 19 0 = -1; tell 0 0 0 5 0; given 19 0 = 3");
        Runs.more(object, "promise 24, to be destroyed", "unkey 0 0; given 19 0 = -1; key 0 0 3; given 19 0 = 3; unkey 1 0; given 19 0 = 3; destroy 0; given 19 0 = 3; read = 100; given 19 0 = -1");
        Runs.run("promise 24, to be changed", "setType 0 0 2 0 0 0; tell 0 0 0 5 0; generator 0; generator 1; bind 0 0 0; bind 1 0 11; key 0 0 3; key 1 0 3; plan 0; approve 0 1; apply 0; step 0; step 0",
                "bind 0 0 -1; pending = 1; given 19 0 = 3");
        Runs.run("promise 24, tainted", "setType 0 0 2 0 0 0; generator 0; generator 1; bind 1 0 11; key 0 0 3; plan 0; approve 0 1; apply 0; step 1; entry 3 = 1; given 19 0 = -1");
        Runs.run("promise 24, through two generators", "setType 0 1 2 0 0 0; generator 0; generator 0; generator 1; bind 1 0 11; bind 2 0 14; key 0 0 3; key 1 0 3; key 2 0 3",
                "plan 0; approve 0 1; apply 0; step 0; given 19 0 = 3; given 35 0 = -1; step 0; given 35 0 = 19; step 0; pending = 0; bind 0 0 0; given 19 0 = -1; given 35 0 = -1",
                "bind 0 0 -1; given 35 0 = 19");
    }
}

/** The sentences on resources, plans, applying, drift, moves and imports that name a boundary, each with a run of its own. */
final class PlanBoundariesTest {
    /** Field 0 is 5; a generator of the type 0, with the attribute 0 from the field 0, and the key 3, made. */
    private static final String MADE = "tell 0 0 0 5 0 = 0; generator 0; bind 0 0 0; key 0 0 3; plan 0; approve 0 1; apply 0; step 0 = 103; serial = 1";
    /** The attribute 1 of the type 0 is computed, and gives the attribute 0 of the type 1; the key 3, not made. */
    private static final String JOINED = "generator 0; generator 1; bind 1 0 11; key 0 0 3; key 1 0 3";
    /** The same, made, from the serial 0 on. */
    private static final String JOINED_MADE = JOINED + "; plan 0; approve 0 1; apply 0; step 0 = 103; step 0 = 119; serial = 2; pending = 0";

    private PlanBoundariesTest() {
    }

    public static void main(String[] args) {
        types();
        generators();
        sources();
        upgrades();
        upgradedValues();
        given();
        whatDiffers();
        actions();
        noPlan();
        plans();
        staleness();
        beginning();
        lockOfTheState();
        makingAndChanging();
        endings();
        failing();
        failingByItself();
        leftOut();
        dying();
        world();
        drift();
        adopting();
        moves();
        imports();
        Runs.end();
    }

    private static void sentence(String text, String... lines) {
        Runs.run("\"" + text + "\"", lines);
    }

    private static void types() {
        sentence("Types are 0 to 2", "setType -1 0 0 0 0 0 ! index; setType 3 0 0 0 0 0 ! index; setType 0 0 0 0 0 0; setType 2 0 0 0 0 0; generator -1 ! index; generator 3 ! index; generator 0 = 0; generator 2 = 1",
                "make -1 ! index; make 3 ! index; make 0 = 0; make 2 = 1; upgrade -1 ! index; upgrade 3 ! index; upgrade 0 = 1; upgrade 2 = 1");
        sentence("with the attributes 0 to 2", "generator 0; make 0; take 0 0; bind 0 -1 0 ! index; bind 0 3 0 ! index; bind 0 0 0 = -1; bind 0 2 0 = -1; given 0 -1 ! index; given 0 3 ! index; given 0 2 = -1; stored 0 -1 ! index; stored 0 3 ! index; stored 0 2 = 0",
                "real 0 -1 ! index; real 0 3 ! index; real 0 2 = 0; change 0 -1 1 ! index; change 0 3 1 ! index; change 0 0 1 = 0; change 0 2 1 = 0");
        sentence("if first, second or third is not 0 to 7", "setType 0 -1 0 0 0 0 ! argument; setType 0 8 0 0 0 0 ! argument; setType 0 0 -1 0 0 0 ! argument; setType 0 0 8 0 0 0 ! argument; setType 0 0 0 -1 0 0 ! argument; setType 0 0 0 8 0 0 ! argument; setType 0 7 7 7 1 1; setType 0 0 0 0 0 0");
        sentence("if there is a generator of the type", "generator 1; setType 1 0 0 0 0 0 ! state; setType 0 0 0 0 0 0; setType 2 0 0 0 0 0");
        sentence("if there is a resource, gone or not, of the type", "make 1; setType 1 0 0 0 0 0 ! state; setType 0 0 0 0 0 0; destroy 0; setType 1 0 0 0 0 0 ! state; setType 2 0 0 0 0 0");
        sentence("At first no attribute is any of these", "tell 0 0 0 5 0; generator 0; bind 0 0 0 = -1; bind 0 1 0 = -1; bind 0 2 0 = -1; make 0; change 0 0 1; change 0 1 1; change 0 2 1; take 3 0; stored 3 0 = 1; stored 3 1 = 1; stored 3 2 = 1; key 0 0 3; plan 0; action 0 0 = 203");
        sentence("types are destroyed first and mended", "generator 0; key 0 0 3; plan 0; approve 0 1; apply 0; step 1; change 0 0 9; read = 1; entry 3 = 1; plan 0; action 1 0 = 303; action 1 1 = 103");
    }

    private static void generators() {
        sentence("Generators are numbered from 0, at most 4", "generator 0 = 0; generator 1 = 1; generator 2 = 2; generator 0 = 3; generator 0 ! state; key 3 0 0 = 1; key 4 0 0 ! index; key -1 0 0 ! index; unkey 4 0 ! index; unkey -1 0 ! index; bind 4 0 0 ! index; bind -1 0 0 ! index");
        sentence("a row of keys, 0 to 15", "generator 0; key 0 0 -1 ! argument; key 0 0 16 ! argument; key 0 0 0 = 1; key 0 0 15 = 2; unkey 0 1 = 0; unkey 0 0 = 15");
        sentence("each once", "generator 0; generator 0; key 0 0 7 = 1; key 0 0 7 ! state; key 0 1 7 ! state; key 1 0 7 = 1; unkey 0 0 = 7; key 0 0 7 = 1");
        sentence("or 8 keys", "generator 0; key 0 0 0; key 0 1 1; key 0 2 2; key 0 3 3; key 0 4 4; key 0 5 5; key 0 6 6 = 7; key 0 7 7 = 8; key 0 8 8 ! state; key 0 0 8 ! state; key 0 9 8 ! index; unkey 0 7 = 7; key 0 0 8 = 8; unkey 0 0 = 8; unkey 0 0 = 0");
        sentence("place: 0 to the number of its keys", "generator 0; key 0 -1 5 ! index; key 0 1 5 ! index; key 0 0 5 = 1; key 0 2 6 ! index; key 0 1 6 = 2; key 0 3 7 ! index; key 0 2 7 = 3; key 0 1 8 = 4; unkey 0 0 = 5; unkey 0 0 = 8; unkey 0 0 = 6; unkey 0 0 = 7");
        sentence("place: 0 for the first key", "generator 0; unkey 0 0 ! index; key 0 0 5; unkey 0 -1 ! index; unkey 0 1 ! index; unkey 0 0 = 5; unkey 0 0 ! index");
        sentence("name: a number of a generator and a key that exist, in its row or not", "entry 0 ! index; given 0 0 ! index; stored 0 0 ! index; generator 0; entry -1 ! index; entry 0 = -1; entry 15 = -1; entry 16 ! index; given 15 0 = 0; given 16 0 ! index; given -1 0 ! index; move 15 16 ! index; move 15 -1 ! index; make 0; take 16 0 ! index; take -1 0 ! index; take 15 0 = 1",
                "generator 1; generator 1; generator 1; entry 63 = -1; entry 64 ! index; given 63 2 = 0; given 64 2 ! index; stored 63 0 ! index; take 64 0 ! index");
        sentence("its name is 16 * the generator + the key, wherever the key is in the row", "generator 0; generator 0; key 1 0 15; key 1 0 0; key 1 1 8; plan 0; action 0 0 = 116; action 0 1 = 124; action 0 2 = 131");
    }

    private static void sources() {
        sentence("-1 for none, a field, or an attribute of a generator with a lower number", "setType 0 2 2 2 0 0; generator 0; generator 1; bind 1 0 -2 ! index; bind 1 0 -1 = -1; bind 1 0 0 = -1; bind 1 0 9 = 0; bind 1 0 10 = 9; bind 1 0 12 = 10; bind 1 0 13 ! index; bind 1 0 -1 = 12",
                "bind 0 0 10 ! index; generator 2; bind 2 0 12 = -1; bind 2 0 13 ! state; bind 2 0 16 ! index");
        sentence("if the attribute is computed", "setType 0 2 0 6 0 0; generator 0; bind 0 0 0 ! state; bind 0 0 -1 ! state; bind 0 1 0 = -1; bind 0 2 0 ! state; bind 0 0 10 ! index");
        sentence("or that of the source is not", "setType 0 2 5 0 0 0; generator 0; generator 1; bind 1 0 11 ! state; bind 1 0 12 ! state; bind 1 0 10 = -1; bind 1 0 11 ! state; bind 1 0 -1 = 10");
        sentence("none (its value is 0)", "generator 0; key 0 0 3; given 3 0 = 0; plan 0; approve 0 1; apply 0; step 0; stored 3 0 = 0; real 0 2 = 0");
        sentence("that which the entry of its resource with the same key has", "setType 0 0 2 0 0 0; generator 0; generator 0; generator 1; bind 2 0 11; bind 2 1 14; key 0 0 3; key 0 0 4; key 1 0 3; key 1 0 4; key 2 0 3; key 2 0 4; plan 0; approve 0 1; apply 0 = 6; step 0; step 0; step 0; step 0; step 0; step 0",
                "stored 35 0 = 3; stored 35 1 = 19; stored 36 0 = 4; stored 36 1 = 20");
        sentence("A source that is tainted may be bound to write-only attributes alone", "setType 0 4 0 0 0 0; tell 0 0 0 5 0; tell 0 11 0 0 0; generator 0; key 0 0 3; bind 0 0 0; pending = 1; bind 0 1 0; pending = -1; bind 0 1 -1; bind 0 2 0; pending = -1; bind 0 2 -1; pending = 1");
    }

    private static void upgrades() {
        sentence("A type has upgrades, 0 at first, at most 2", "upgrade 0 = 1; upgrade 0 = 2; upgrade 0 ! state; upgrade 1 = 1; serial = 3");
        sentence("if it has 2, or the state is locked", "generator 0; key 0 0 3; plan 0; approve 0 1; apply 0; upgrade 0 ! state; upgrade 1 ! state; upgrade 3 ! index; step 0; upgrade 0 = 1");
        sentence("An upgrade writes the state", MADE, "plan 0; serial = 1; upgrade 2 = 1; serial = 2; isStale 1 = 1; upgrade 0 = 1; serial = 3");
        sentence("the attributes 0 and 1 change places: what they are", "setType 0 3 4 0 0 0; upgrade 0; tell 0 0 0 5 0; generator 0; bind 0 1 0 ! state; bind 0 0 0 = -1; make 0; change 0 0 9; change 0 1 9; take 3 0; stored 3 0 = 0; stored 3 1 = 9");
        sentence("change places: their sources", "generator 0; bind 0 0 3; bind 0 1 4; bind 0 2 5; upgrade 0; bind 0 0 -1 = 4; bind 0 1 -1 = 3; bind 0 2 -1 = 5");
        sentence("change places: what refers to them", "setType 0 2 2 2 0 0; generator 0; generator 1; generator 0; bind 1 0 10; bind 1 1 11; bind 1 2 12; upgrade 0; bind 1 0 -1 = 11; bind 1 1 -1 = 10; bind 1 2 -1 = 12");
        sentence("change places: what refers to them, of its own type", "setType 0 0 2 0 0 0; generator 0; generator 0; bind 1 0 11; bind 1 2 11; upgrade 0; bind 1 1 -1 = 10; bind 1 2 -1 = 10; bind 1 0 -1 ! state");
        sentence("change places: not of another type", "setType 0 2 2 0 0 0; generator 0; generator 1; bind 1 0 10; bind 1 1 11; upgrade 2; bind 1 0 10 = 10; bind 1 1 11 = 11; upgrade 1; bind 1 0 11 = 11; bind 1 1 10 = 10");
        sentence("what is stored, in the world and the state", MADE, "change 0 2 9; read = 1; change 0 1 7; upgrade 0; stored 3 0 = 0; stored 3 1 = 10; stored 3 2 = 18; real 0 0 = 14; real 0 1 = 10; real 0 2 = 18; read = 1; stored 3 0 = 14");
    }

    private static void upgradedValues() {
        sentence("all its values, those of sources too, are doubled with each", MADE, "given 3 0 = 5; upgrade 0; given 3 1 = 10; given 3 0 = 0; pending = 0; upgrade 0; given 3 0 = 20; pending = 0; read = 0; remove 0; tell 0 0 0 63 0; given 3 0 = 252; pending = 1");
        sentence("all its values are doubled, a value of 255 too", "make 0; change 0 0 255; upgrade 0; real 0 1 = 510; upgrade 0; real 0 0 = 1020; change 0 0 255 = 1020; change 0 0 256 ! argument");
        sentence("all its values are doubled, the computed ones of a resource made later too", "setType 0 0 0 2 0 0; upgrade 0; generator 0; key 0 0 3; plan 0; approve 0 1; apply 0; step 0; stored 3 2 = 6; upgrade 0; stored 3 2 = 12; key 0 0 15; plan 0; approve 1 1; apply 1; step 0; stored 15 2 = 60");
        sentence("A source that is an attribute gives the value without the doublings of its own type", "setType 0 0 2 0 0 0", JOINED_MADE, "upgrade 0; stored 3 0 = 6; given 19 0 = 3; pending = 0; upgrade 0; stored 3 1 = 12; given 19 0 = 3; pending = 0; upgrade 1; given 19 1 = 6; pending = 0");
        sentence("what is adopted, with what the source gave when that was", "setType 0 0 0 0 0 1", MADE, "change 0 0 9; read = 1; entry 3 = 10; upgrade 0; entry 3 = 20; pending = 0; upgrade 0; entry 3 = 10; pending = 0; remove 0; tell 0 0 0 6 0; pending = 1");
    }

    private static void given() {
        sentence("0 for none and for one that is computed", "setType 0 2 0 0 0 0; generator 0; given 3 0 = 0; given 3 1 = 0; key 0 0 3; plan 0; approve 0 1; apply 0; step 0; stored 3 0 = 3; given 3 0 = 0");
        sentence("-1 for a field that is not settled, or there is a conflict", "generator 0; bind 0 0 0; given 3 0 = -1; tell 0 0 0 5 0; given 3 0 = 5; tell 0 0 1 6 0; tell 0 3 1 6 0 = 2; given 3 0 = -1; given 3 1 = 0; remove 2; given 3 0 = 5");
        sentence("-1 if its resource has no entry", "setType 0 0 2 0 0 0", JOINED, "given 19 0 = -1; given 20 0 = -1; make 0; change 0 1 9; take 3 0; given 19 0 = 9; move 3 4; given 19 0 = -1; given 20 0 = -1; key 0 0 4; given 20 0 = 9");
        sentence("-1 if its resource is to be replaced", "setType 0 1 2 0 0 0", JOINED_MADE, "given 19 0 = 3; bind 0 0 0; given 19 0 = -1; tell 0 0 0 0 0; given 19 0 = 3; bind 0 2 0; given 19 0 = 3; remove 0; tell 0 0 0 1 0; given 19 0 = -1; bind 0 0 -1; given 19 0 = 3");
        sentence("-1 if its resource is to be replaced, being tainted", "setType 0 0 2 0 0 0", JOINED, "plan 0; approve 0 1; apply 0; step 1 = 103; entry 3 = 1; given 19 0 = -1");
        sentence("-1 if its resource is to be destroyed", "setType 0 0 2 0 0 0", JOINED_MADE, "unkey 0 0; given 19 0 = -1; key 0 0 3; given 19 0 = 3");
        sentence("its resource is gone, and its entry there", "setType 0 0 2 0 0 0", JOINED_MADE, "destroy 0; given 19 0 = 3; pending = 0; read = 100; given 19 0 = -1; pending = 2");
    }

    private static void whatDiffers() {
        sentence("a name with a key and no entry has to be made; with an entry and no key destroyed", "generator 0; pending = 0; key 0 0 3; pending = 1; make 0; take 3 0; pending = 0; unkey 0 0; pending = 1; plan 0; action 0 0 = 303");
        sentence("one with both has to be replaced, if the entry is tainted", "generator 0; key 0 0 3; plan 0; approve 0 1; apply 0; step 1; pending = 2; differing = 1");
        sentence("replaced, if an attribute that forces differs; otherwise changed, if another one differs", "setType 0 1 0 0 0 0", MADE, "bind 0 2 0; pending = 1; plan 0; action 1 0 = 203; bind 0 0 -1; pending = 2; plan 0; action 2 0 = 303; bind 0 2 -1; pending = 2; bind 0 0 0; pending = 0");
        sentence("differs if its source gives nothing, or has still to be made or replaced", "setType 0 1 2 0 0 0; setType 1 0 0 1 0 0", JOINED_MADE, "tell 0 0 0 5 0; bind 0 0 0; pending = 3; bind 1 0 -1; bind 1 2 11; pending = 4; bind 0 0 -1; pending = 2; destroy 0; read; pending = 3; differing = 2");
        sentence("not if it is computed", "setType 0 3 0 0 0 0; generator 0; key 0 0 3; plan 0; approve 0 1; apply 0; step 0; change 0 0 77; read = 1; stored 3 0 = 77; pending = 0; differing = 0");
        sentence("not if it is adopted and the source gives what it gave then", "setType 0 0 0 0 0 1", MADE, "change 0 0 9; read = 1; pending = 0; differing = 0; remove 0; tell 0 0 0 4 0; pending = 1; differing = 1; remove 1; tell 0 0 0 9 0; pending = 0; remove 2; tell 0 0 0 5 0; pending = 0");
    }

    private static void actions() {
        sentence("DESTROY and then MAKE, or, for a type that is made first, MAKE alone", "setType 1 0 0 0 1 0; generator 0; generator 1; key 0 0 3; key 1 0 3; plan 0; approve 0 1; apply 0; step 1; step 1; plan 0; action 1 0 = 303; action 1 1 = 103; action 1 2 = 119; action 1 3 = 419; action 1 4 ! index");
        sentence("then by falling names DESTROY, and RETIRE", "setType 0 0 0 0 1 0; generator 0; key 0 0 1; key 0 0 2; key 0 0 3; key 0 0 4; plan 0; approve 0 1; apply 0; step 1; step 1; step 1; step 1; unkey 0 0; unkey 0 1; plan 0; pending = 6",
                "action 1 0 = 101; action 1 1 = 103; action 1 2 = 304; action 1 3 = 403; action 1 4 = 302; action 1 5 = 401; differing = 4");
        sentence("a plan of 64 names", "setType 0 1 0 0 1 0; generator 0; generator 0; generator 0; generator 0; key 0 0 15; key 3 0 15; make 0; make 0; take 0 0; take 63 1; plan 0; action 0 0 = 115; action 0 1 = 300; pending = 2; tell 0 0 0 5 0; bind 3 0 0; pending = 4; plan 0; action 1 1 = 163; action 1 2 = 463");
        sentence("index: 0 for the first one", "generator 0; key 0 0 3; plan 0; action 0 -1 ! index; action 0 0 = 103; action 0 1 ! index; plan 0; action 1 0 = 103; action 2 0 ! index; action -1 0 ! index");
    }

    private static void noPlan() {
        String two = "generator 0; key 0 0 3; pending = 1";
        sentence("no plan as long as there is a conflict", two, "tell 0 6 0 0 0 = 0; pending = -1; differing = -1; plan 0 ! state; remove 0; pending = 1; differing = 1; plan 0 = 0");
        sentence("no plan as long as there is a statement at fault", two, "tell 0 4 0 5 0 = 0; tell 1 9 0 0 0 = 1; pending = -1; differing = -1; plan 0 ! state; tell 0 8 0 0 0; pending = 1; tell 2 10 0 0 0 = 3; pending = -1; remove 0; pending = 1");
        sentence("a statement at fault of a version that is not wanted", two, "lock 0 0; draft 0 3 0 5 0; publish 0; pending = 1; tell 0 12 0 1 0 = 1; pending = -1; remove 1; pending = 1");
        sentence("a field that is a source of a generator with keys and not settled", "generator 0; bind 0 2 9; pending = 0; key 0 0 3; pending = -1; differing = -1; plan 0 ! state; tell 0 4 9 5 0; pending = 1; tell 0 4 9 6 0; pending = -1; unkey 0 0; pending = 0");
        sentence("a tainted field that is a source of an attribute that is not write-only", "setType 0 3 4 0 0 0; tell 0 0 9 5 0; tell 0 11 9 0 0; generator 0; bind 0 2 9; pending = 0; key 0 0 3; pending = -1; differing = -1; plan 0 ! state; bind 0 2 -1; bind 0 1 9; pending = 1");
        sentence("a row that lacks one of the keys", "setType 0 2 0 0 0 0; generator 0; generator 1; bind 1 2 10; key 1 0 3; pending = -1; differing = -1; plan 0 ! state; key 0 0 3; pending = 2; key 1 1 4; pending = -1; unkey 1 0; pending = -1; key 0 0 4; pending = 3; unkey 1 0; unkey 0 0; unkey 0 0; pending = 0");
    }

    private static void plans() {
        Layerwright object = Runs.run("\"Plans are numbered from 0, at most 40\"", "plan -1 ! index; plan 3 ! index");
        for (int i = 0; i < 40; i++) Runs.more(object, "\"Plans are numbered from 0, at most 40\"", "plan 2 = " + i);
        Runs.more(object, "\"Plans are numbered from 0, at most 40\"", "plan 0 ! state; plan 3 ! index; isStale 39 = 0; isStale 40 ! index; approve 39 2 ! state; approve 39 0 = 1; approve 40 0 ! index; rebase 39 = 1; rebase 40 ! index; apply 40 ! index; apply 39 ! state; action 40 0 ! index");
        sentence("a plan has a team, 0 to 2", "plan -1 ! index; plan 3 ! index; plan 0 = 0; plan 2 = 1; approve 0 -1 ! index; approve 0 3 ! index; approve -1 1 ! index; approve 2 1 ! index; approve 0 2 = 1; approve 1 0 = 1");
        sentence("It has to be approved by another team", "generator 0; key 0 0 3; plan 1; approve 0 1 ! state; apply 0 ! state; approve 0 0 = 1; approve 0 0 = 0; approve 0 2 = 0; approve 0 1 ! state; apply 0 = 1; approve 0 2 = 0");
    }

    private static void staleness() {
        sentence("stale if the serial is another one by then", "generator 0; key 0 0 3; plan 0; isStale 0 = 0; make 0; isStale 0 = 0; take 4 0; isStale 0 = 1; plan 0; isStale 1 = 0; move 4 5; isStale 1 = 1");
        sentence("stale if one of its actions would not be an action of a plan that is made then", "generator 0; key 0 0 3; key 0 0 4; plan 0; unkey 0 0; isStale 0 = 1; key 0 0 4; isStale 0 = 0; key 0 0 5; isStale 0 = 0; unkey 0 2; isStale 0 = 1; unkey 0 0; key 0 0 3; isStale 0 = 0");
        sentence("stale if there can be none, also without actions", "plan 0; isStale 0 = 0; tell 0 6 0 0 0 = 0; isStale 0 = 1; remove 0; isStale 0 = 0; generator 0; key 0 0 3; plan 0; bind 0 0 0; isStale 0 = 1; isStale 1 = 1; rebase 0 = 0; rebase 1 = 0");
        sentence("A plan can be rebased, if all its actions would be", "generator 0; key 0 0 3; key 0 0 4; plan 0; upgrade 1; isStale 0 = 1; unkey 0 1; rebase 0 = 0; isStale 0 = 1; key 0 0 3; isStale 0 = 1; rebase 0 = 1; isStale 0 = 0");
        sentence("it has the new serial then, and its approval", "generator 0; key 0 0 3; plan 0; plan 0; approve 0 1; upgrade 1; rebase 0 = 1; rebase 1 = 1; approve 0 2 = 0; apply 1 ! state; apply 0 = 1");
        sentence("it has those of its actions that it had", "generator 0; key 0 0 3; plan 0; approve 0 1; key 0 0 2; upgrade 1; rebase 0 = 1; action 0 0 = 103; action 0 1 ! index; apply 0 = 1; step 0 = 103; isApplying = 0; entry 2 = -1");
        sentence("rebased to more actions of the same name", "setType 0 1 0 0 1 0; tell 0 0 0 5 0; generator 0; bind 0 0 0; key 0 0 3; plan 0; approve 0 1; make 0; take 3 0; rebase 0 = 1; pending = 2; apply 0 = 1; step 0 = 103; isApplying = 0; entry 3 = 100; real 0 0 = 0; real 1 0 = 5");
        sentence("if an apply of it has begun", "generator 0; key 0 0 3; plan 0; approve 0 1; rebase 0 = 1; apply 0; rebase 0 ! state; pass 3; isApplying = 0; rebase 0 ! state; isStale 0 = 0");
    }

    private static void beginning() {
        String ready = "generator 0; key 0 0 3; key 0 0 4; plan 0";
        sentence("if it is not approved", ready, "apply 0 ! state; approve 0 1; apply 0 = 2");
        sentence("has another serial than the state", ready, "approve 0 1; upgrade 1; apply 0 ! state; rebase 0; apply 0 = 2");
        sentence("has an action that a plan made now would not have", ready, "approve 0 1; unkey 0 0; apply 0 ! state; key 0 0 4; apply 0 = 2");
        sentence("has no action", "generator 0; plan 0; approve 0 1; isStale 0 = 0; apply 0 ! state; key 0 0 3; apply 0 ! state");
        sentence("or an apply of it has begun", ready, "approve 0 1; apply 0 = 2; apply 0 ! state; pass 3; isLocked = 0; isStale 0 = 0; apply 0 ! state");
        sentence("or the state is locked", ready, "plan 0; approve 0 1; approve 1 1; apply 0; apply 1 ! state; isStale 1 = 0; pass 3; apply 1 = 2; step 2; isApplying = 0; plan 0; approve 2 1; isStale 2 = 0; apply 2 ! state; pass 3; apply 2 = 2");
        sentence("if there is no such plan", "apply 0 ! index; plan 0; apply -1 ! index; apply 1 ! index; apply 0 ! state");
    }

    private static void lockOfTheState() {
        String ready = "generator 0; key 0 0 3; key 0 0 4; pass 9; plan 0; approve 0 1; apply 0";
        sentence("the state is locked until the apply is over", ready, "isLocked = 1; isApplying = 1; step 0; isLocked = 1; isApplying = 1; step 0; isLocked = 0; isApplying = 0; step 0 ! state");
        sentence("or the day comes that is 3 later than it began, by which it is over, too", ready, "pass 1; isLocked = 1; isApplying = 1; pass 1; isLocked = 1; isApplying = 1; step 0 = 103; pass 1; isLocked = 0; isApplying = 0; step 0 ! state; pending = 1");
        sentence("the day comes that is 3 later: at once", ready, "pass 30; isLocked = 0; isApplying = 0; step 0 ! state");
        sentence("an earlier apply's day does not end a later one", ready, "pass 2; step 0; step 0; isLocked = 0; key 0 0 5; plan 0; approve 1 1; apply 1; pass 2; isLocked = 1; isApplying = 1; pass 1; isLocked = 0; isApplying = 0");
        sentence("Neither is possible while the state is locked, and reading the world is not, either", "generator 0; make 0; make 0; take 9 0; key 0 0 3; plan 0; approve 0 1; apply 0; read ! state; move 9 8 ! state; take 8 1 ! state; step 2; read ! state; move 9 8 ! state; take 8 1 ! state; pass 2; read ! state; move 9 8 ! state; take 8 1 ! state; pass 1; read = 0; move 9 8 = 2; take 9 1 = 3");
        sentence("how: 0 to 2", ready, "step -1 ! argument; step 3 ! argument; step 0 = 103; step 2 = 104; step 3 ! argument; step 0 ! state; step 1 ! state; step 2 ! state");
    }

    private static void makingAndChanging() {
        sentence("MAKE makes a resource with the values that the sources give then", "tell 0 0 0 5 0; generator 0; bind 0 0 0; key 0 0 3; plan 0; approve 0 1; apply 0; remove 0; tell 0 0 0 6 0; bind 0 2 0; step 0; stored 3 0 = 6; stored 3 2 = 6; real 0 0 = 6; entry 3 = 0");
        sentence("the name and 7 times how many resources were made for that name before, added, by 64", "setType 0 2 0 0 0 0; generator 0; generator 0; generator 0; generator 0; key 3 0 15; plan 0; approve 0 1; apply 0; step 0; stored 63 0 = 63; destroy 0; read; make 0; plan 0; approve 1 1; apply 1; step 0; stored 63 0 = 6; destroy 2; read; plan 0; approve 2 1; apply 2; step 0; stored 63 0 = 13");
        sentence("CHANGE writes the attributes that differ then to the resource and the entry", MADE, "tell 0 0 1 7 0; bind 0 1 1; plan 0; approve 1 1; apply 1; change 0 0 99; change 0 2 98; remove 1; tell 0 0 1 8 0; step 0 = 203; stored 3 1 = 8; real 0 1 = 8; stored 3 0 = 5; real 0 0 = 99; real 0 2 = 98; serial = 2");
        sentence("If the resource is gone, the entry is written all the same", MADE, "bind 0 1 0; plan 0; approve 1 1; apply 1; destroy 0; step 0 = 203; stored 3 1 = 5; real 0 1 = -1; serial = 2");
        sentence("What is written is not adopted any more", "setType 0 0 0 0 0 1", MADE, "change 0 0 9; change 0 1 9; read = 2; entry 3 = 30; remove 0; tell 0 0 0 6 0; plan 0; approve 1 1; apply 1; step 0 = 203; entry 3 = 20; stored 3 0 = 6; stored 3 1 = 9");
        sentence("a new entry has no adopted attributes", "setType 0 1 0 0 1 1", MADE, "change 0 1 9; read = 1; entry 3 = 20; remove 0; tell 0 0 0 6 0; plan 0; approve 1 1; apply 1; step 0 = 103; entry 3 = 100; stored 3 1 = 0; step 0 = 403; entry 3 = 100");
    }

    private static void endings() {
        sentence("DESTROY lets the resource and the entry be gone", MADE, "unkey 0 0; plan 0; approve 1 1; apply 1; step 0 = 303; entry 3 = -1; real 0 0 = -1; stored 3 0 ! index; serial = 2; isLocked = 0");
        sentence("DESTROY, the resource is gone", MADE, "unkey 0 0; plan 0; approve 1 1; apply 1; destroy 0; step 0 = 303; entry 3 = -1; serial = 2");
        sentence("RETIRE the old resource alone", "setType 0 1 0 0 1 0", MADE, "remove 0; tell 0 0 0 6 0; plan 0; approve 1 1; apply 1; step 0 = 103; real 0 0 = 5; step 0 = 403; real 0 0 = -1; real 1 0 = 6; entry 3 = 100; serial = 3");
        sentence("If there is no action left, the apply is over", MADE, "isApplying = 0; isLocked = 0; step 0 ! state; apply 0 ! state");
    }

    private static void failing() {
        sentence("a MAKE that fails makes the resource, but its entry is tainted", "generator 0; key 0 0 3; plan 0; approve 0 1; apply 0; step 1 = 103; entry 3 = 1; resources = 1; real 0 0 = 0; serial = 1; isApplying = 0");
        sentence("another one does nothing, and does not write the state: CHANGE", MADE, "bind 0 1 0; plan 0; approve 1 1; apply 1; step 1 = 203; stored 3 1 = 0; real 0 1 = 0; serial = 1; isApplying = 0; isStale 1 = 0");
        sentence("another one does nothing, and does not write the state: DESTROY", MADE, "unkey 0 0; plan 0; approve 1 1; apply 1; step 1 = 303; entry 3 = 0; real 0 0 = 5; serial = 1; isApplying = 0");
        sentence("another one does nothing, and does not write the state: RETIRE", "setType 0 1 0 0 1 0", MADE, "bind 0 0 -1; plan 0; approve 1 1; apply 1; step 0 = 103; step 1 = 403; entry 3 = 100; real 0 0 = 5; serial = 2; isApplying = 0");
    }

    private static void failingByItself() {
        sentence("if a source that it needs gives nothing: MAKE", "tell 0 0 0 5 0; generator 0; bind 0 2 0; key 0 0 3; plan 0; approve 0 1; apply 0; remove 0; step 0 = 103; resources = 0; entry 3 = -1; serial = 0; isApplying = 0; isLocked = 0");
        sentence("if a source that it needs gives nothing: CHANGE", MADE, "bind 0 2 0; plan 0; approve 1 1; apply 1; remove 0; step 0 = 203; stored 3 2 = 0; real 0 2 = 0; serial = 1; isApplying = 0");
        sentence("DESTROY and RETIRE need no source", "setType 0 1 0 0 1 0", MADE, "make 0; take 4 1; remove 0; tell 0 0 0 6 0; plan 0; approve 1 1; apply 1 = 3; step 0 = 103; remove 1; step 0 = 304; step 0 = 403; real 0 0 = -1; real 1 0 = -1; serial = 5; isApplying = 0");
        sentence("told to fail, it does nothing, too", "tell 0 0 0 5 0; generator 0; bind 0 2 0; key 0 0 3; plan 0; approve 0 1; apply 0; remove 0; step 1 = 103; resources = 0; entry 3 = -1; serial = 0");
        sentence("the process dies all the same, if that was told", "tell 0 0 0 5 0; generator 0; bind 0 2 0; key 0 0 3; key 0 0 4; plan 0; approve 0 1; apply 0; remove 0; step 2 = 103; resources = 0; entry 3 = -1; serial = 0; isApplying = 0; isLocked = 1; pass 3; isLocked = 0");
        for (int made = 58; made <= 60; made++) sixty(made);
    }

    /** "or it would make a resource, and there have been 60": of two that are to be made. */
    private static void sixty(int made) {
        Layerwright object = Runs.run("there have been " + made, "generator 0; key 0 0 3; key 0 0 4");
        for (int i = 0; i < made; i++) Runs.more(object, "there have been " + made, "make 0 = " + i);
        int room = 60 - made;
        Runs.more(object, "there have been " + made, "destroy 0; plan 0; approve 0 1; apply 0 = 2; step 0 = 103; step 0 = 104; isApplying = 0; resources = 60; make 0 ! state; real 59 0 = 0; real 60 0 ! index",
                "serial = " + room + "; pending = " + (2 - room) + "; entry 3 = " + (room > 0 ? 100 * made : -1) + "; entry 4 = " + (room > 1 ? 5900 : -1));
    }

    private static void leftOut() {
        String rows = "setType 0 0 2 0 0 0; setType 1 0 2 0 1 0; generator 0; generator 1; generator 1; bind 1 0 11; bind 2 0 14; key 0 0 3; key 0 0 4; key 1 0 3; key 1 0 4; key 2 0 3; key 2 0 4; plan 0; approve 0 1; apply 0 = 6";
        sentence("of the same name that come behind a failed step: MAKE behind DESTROY", "setType 0 1 0 0 0 0", MADE, "bind 0 0 -1; plan 0; approve 1 1; apply 1 = 2; step 1 = 303; isApplying = 0; resources = 1");
        sentence("of the same name that come behind a failed step: RETIRE behind MAKE", "setType 0 1 0 0 1 0", MADE, "bind 0 0 -1; plan 0; approve 1 1; apply 1 = 2; step 1 = 103; isApplying = 0; real 0 0 = 5; entry 3 = 101");
        sentence("of names with a source in a name that has failed", rows, "step 0 = 103; step 1 = 104; step 0 = 119; step 0 = 135; isApplying = 0; isLocked = 0; entry 20 = -1; entry 36 = -1");
        sentence("or was left out earlier in the order", rows, "step 1 = 103; step 0 = 104; step 0 = 120; step 0 = 136; isApplying = 0; entry 19 = -1; entry 35 = -1");
        sentence("that have nothing to do with it are not", rows, "step 0 = 103; step 0 = 104; step 0 = 119; step 1 = 120; step 0 = 135; isApplying = 0; entry 3 = 0; entry 4 = 100; entry 35 = 400");
        sentence("asked behind each step, up to the first one that is not left out, by the sources of then", rows, "step 0 = 103; step 1 = 104; bind 1 0 -1; step 0 = 119; step 0 = 120; step 0 = 135; step 0 = 136; isApplying = 0");
        sentence("that is asked behind each step: a source that is bound later", rows, "bind 1 0 -1; step 1 = 103; bind 1 0 11; step 0 = 104; step 0 = 120; step 0 = 136; isApplying = 0");
        sentence("a name that is to be changed, with a source in one that was left out", rows, "step 0; step 0; step 0; step 0; step 0; step 0; pending = 0; destroy 0; destroy 2; read = 200; pending = 3; plan 0; approve 1 1; apply 1 = 3; step 1 = 103; isApplying = 0; entry 35 = 400; pending = 4");
        sentence("holds for good, for all actions of the name", "setType 1 1 0 0 1 0; setType 0 0 2 0 0 0; tell 0 0 0 5 0; generator 0; generator 1; bind 1 2 11; key 0 0 3; key 1 0 3; key 1 0 4; key 0 0 4; plan 0; approve 0 1; apply 0; step 0; step 0; step 0; step 0; pending = 0",
                "bind 1 0 0; destroy 0; read = 100; plan 0; approve 1 1; apply 1 = 5; action 1 1 = 119; action 1 4 = 419; step 1 = 103; bind 1 2 -1; step 0 = 120; step 0 = 420; isApplying = 0; entry 19 = 200; real 2 0 = 0; real 3 0 = -1");
        sentence("no action is left behind those left out", rows, "step 1 = 103; step 1 = 104; isApplying = 0; isLocked = 0; serial = 2; resources = 2; step 0 ! state");
    }

    private static void dying() {
        sentence("it is done in the world, but the state is not written: MAKE", "setType 0 2 0 0 0 0; generator 0; key 0 0 3; plan 0; approve 0 1; apply 0; step 2 = 103; resources = 1; real 0 0 = 3; entry 3 = -1; serial = 0; isApplying = 0; isLocked = 1; pass 3; plan 0; approve 1 1; apply 1; step 0; stored 3 0 = 10");
        sentence("it is done in the world, but the state is not written: CHANGE", MADE, "bind 0 1 0; plan 0; approve 1 1; apply 1; step 2 = 203; real 0 1 = 5; stored 3 1 = 0; serial = 1; isApplying = 0; isLocked = 1; pass 3; read = 1; stored 3 1 = 5; pending = 0");
        sentence("it is done in the world, but the state is not written: DESTROY", MADE, "unkey 0 0; plan 0; approve 1 1; apply 1; step 2 = 303; real 0 0 = -1; entry 3 = 0; serial = 1; isApplying = 0; isLocked = 1; pass 3; read = 100; pending = 0");
        sentence("it is done in the world, but the state is not written: RETIRE", "setType 0 1 0 0 1 0", MADE, "bind 0 0 -1; plan 0; approve 1 1; apply 1; step 0 = 103; step 2 = 403; real 0 0 = -1; entry 3 = 100; serial = 2; isApplying = 0; isLocked = 1");
        sentence("the state stays locked until that day", "generator 0; key 0 0 3; plan 0; approve 0 1; pass 4; apply 0; pass 1; step 2; isLocked = 1; pass 1; isLocked = 1; pass 1; isLocked = 0");
    }

    private static void world() {
        Layerwright object = Runs.run("\"Resources in the world are numbered from 0, at most 60\"", "real 0 0 ! index; resources = 0");
        for (int i = 0; i < 60; i++) Runs.more(object, "\"Resources in the world are numbered from 0, at most 60\"", "make 1 = " + i);
        Runs.more(object, "\"Resources in the world are numbered from 0, at most 60\"", "make 1 ! state; make 3 ! index; real 59 2 = 0; real 60 0 ! index; real -1 0 ! index; change 59 2 255 = 0; change 60 0 0 ! index; change -1 0 0 ! index; destroy 60 ! index; destroy -1 ! index; destroy 0 = 1; make 1 ! state; resources = 60; generator 1; take 0 59 = 1; take 1 60 ! index");
        sentence("a resource has a type and three values, or is gone", "make 0; real 0 0 = 0; real 0 1 = 0; real 0 2 = 0; destroy 0 = 1; real 0 0 = -1; real 0 1 = -1; real 0 2 = -1; destroy 0 = 0; resources = 1");
        sentence("value: 0 to 255; if the resource is gone", "make 0; change 0 0 -1 ! argument; change 0 0 256 ! argument; change 0 0 255 = 0; change 0 0 0 = 255; destroy 0; change 0 0 0 ! state; change 0 0 256 ! argument");
        sentence("The state has a serial, 0 at first, which becomes 1 more whenever the state is written", "serial = 0; make 0; change 0 0 9; generator 0; key 0 0 3; plan 0; approve 0 1; pass 1; serial = 0; take 4 0 = 1; serial = 1; move 4 5 = 2; serial = 2; change 0 0 8; read = 1; serial = 3; read = 0; serial = 3; upgrade 2; serial = 4");
        sentence("if there is no such name, entry or attribute", "generator 0; stored 3 0 ! index; make 0; take 3 0; stored 3 0 = 0; stored 3 3 ! index; stored 3 -1 ! index; stored 4 0 ! index; stored 16 0 ! index; stored -1 0 ! index");
    }

    private static void drift() {
        sentence("entries whose resource is gone are dropped", MADE, "make 0; take 4 1; destroy 0; destroy 1; read = 200; serial = 3; entry 3 = -1; entry 4 = -1; read = 0; serial = 3");
        sentence("each attribute that is not write-only, and differs from the entry, is a drift", "setType 0 0 2 4 0 0", MADE, "change 0 0 9; change 0 1 9; change 0 2 9; read = 2; stored 3 0 = 9; stored 3 1 = 9; stored 3 2 = 0; serial = 2; entry 3 = 0; read = 0; serial = 2");
        sentence("100 * the entries that are dropped + the drifts", MADE, "make 0; make 0; take 4 1; take 5 2; change 0 0 9; change 1 0 9; change 1 1 9; destroy 2; read = 103; serial = 4");
        sentence("If there was any, the state is written: a drop alone, a drift alone, none", MADE, "read = 0; serial = 1; change 0 0 9; change 0 0 5; read = 0; serial = 1; change 0 0 9; read = 1; serial = 2; destroy 0; read = 100; serial = 3; read = 0; serial = 3");
        sentence("if the state is locked", "generator 0; key 0 0 3; read = 0; plan 0; approve 0 1; apply 0; read ! state; step 0; read = 0");
    }

    private static void adopting() {
        String start = "setType 0 0 0 4 0 1";
        sentence("if the type adopts, the attribute is adopted", start, MADE, "change 0 0 9; read = 1; entry 3 = 10; change 0 1 9; read = 1; entry 3 = 30; change 0 2 9; read = 0; entry 3 = 30");
        sentence("with what the source gives now", start, MADE, "change 0 0 9; remove 0; tell 0 0 0 7 0; read = 1; pending = 0; remove 1; tell 0 0 0 5 0; pending = 1; change 0 0 8; read = 1; pending = 0; remove 2; tell 0 0 0 7 0; pending = 1");
        sentence("it is not, if it gives nothing", start, MADE, "change 0 0 9; change 0 1 9; remove 0; read = 2; entry 3 = 20; stored 3 0 = 9; tell 0 0 0 5 0; pending = 1");
        sentence("it is not, if the name has no key", start, MADE, "change 0 0 9; unkey 0 0; read = 1; entry 3 = 0; stored 3 0 = 9; key 0 0 3; pending = 1");
        sentence("it is not any more, if it gives nothing", start, MADE, "change 0 0 9; read = 1; entry 3 = 10; remove 0; read = 0; entry 3 = 10; change 0 0 8; read = 1; entry 3 = 0");
        sentence("if the type does not adopt", MADE, "change 0 0 9; read = 1; entry 3 = 0; pending = 1");
        sentence("by rising names: what a dropped entry gave is nothing", "setType 0 0 2 0 0 0; setType 1 0 0 0 0 1", JOINED_MADE, "destroy 0; change 1 0 9; read = 101; entry 19 = 100; stored 19 0 = 9");
        sentence("by rising names: what a drift gives", "setType 0 0 2 0 0 0; setType 1 0 0 0 0 1", JOINED_MADE, "change 0 1 8; change 1 0 9; read = 2; entry 19 = 110; pending = 0; change 0 1 3; read = 1; pending = 1; change 0 1 8; read = 1; pending = 0");
    }

    private static void moves() {
        sentence("The entry of a name can be moved to another one without an entry", "generator 0; generator 0; make 0; make 0; take 3 0; move 3 4 = 2; entry 3 = -1; entry 4 = 0; move 3 4 ! state; move 3 5 ! state; take 3 1; move 3 4 ! state; move 3 3 ! state; move 4 31 = 4; entry 31 = 0; move 4 5 ! state");
        sentence("of a generator of the same type", "generator 0; generator 1; generator 0; make 0; take 3 0; move 3 16 ! state; move 3 32 = 2; move 32 31 ! state; move 32 0 = 3");
        sentence("there is no such name, of either", "generator 0; make 0; take 3 0; move 3 16 ! index; move 16 3 ! index; move -1 3 ! index; move 3 -1 ! index; move 3 15 = 2");
        sentence("moved with its values, its taint and what is adopted", "setType 0 0 0 0 0 1; generator 0; key 0 0 3; plan 0; approve 0 1; apply 0; step 1; change 0 1 9; read = 1; entry 3 = 21; move 3 4 = 3; entry 4 = 21; stored 4 1 = 9; pending = 2");
    }

    private static void imports() {
        sentence("a resource that no entry has can be imported for a name without an entry", "generator 0; make 0; make 0; take 3 0 = 1; take 3 1 ! state; take 4 0 ! state; take 4 1 = 2; move 3 5; take 3 0 ! state; destroy 0; read = 100; take 3 0 ! state");
        sentence("of a generator of its type", "generator 0; generator 1; make 1; take 3 0 ! state; take 19 0 = 1; make 0; take 20 1 ! state; take 3 1 = 2");
        sentence("the resource is gone", "generator 0; make 0; destroy 0; take 3 0 ! state; make 0; take 3 1 = 1");
        sentence("with its values as they are (of write-only ones 0)", "setType 0 4 2 6 0 1; generator 0; key 0 0 3; make 0; change 0 0 7; change 0 1 8; change 0 2 9; take 3 0; stored 3 0 = 0; stored 3 1 = 8; stored 3 2 = 0; entry 3 = 0; real 0 0 = 7; real 0 2 = 9; pending = 0; read = 0");
        sentence("there is no such name or resource", "take 0 0 ! index; generator 0; take 0 0 ! index; make 0; take 16 0 ! index; take -1 0 ! index; take 0 1 ! index; take 0 -1 ! index; take 0 0 = 1");
    }
}

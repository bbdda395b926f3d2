/** The sentences on fields, statements and values that name a boundary, each with a run of its own. */
final class StatementBoundariesTest {
    private StatementBoundariesTest() {
    }

    public static void main(String[] args) {
        fieldsAndFiles();
        packages();
        numbersOfStatements();
        kinds();
        guards();
        imports();
        whatThereIs();
        faults();
        locksAndExceptions();
        narrowing();
        conflicts();
        defaults();
        leastConflicts();
        policies();
        tainted();
        Runs.end();
    }

    private static void sentence(String text, String... lines) {
        Runs.run("\"" + text + "\"", lines);
    }

    private static void fieldsAndFiles() {
        sentence("The fields are 0 to 9", "tell 0 0 -1 5 0 ! index; tell 0 0 0 5 0 = 0; tell 0 0 9 5 0 = 1; tell 0 0 10 5 0 ! index",
                "draft 0 0 -1 5 0 ! index; draft 0 0 0 5 0 = 2; draft 0 0 9 5 0 = 3; draft 0 0 10 5 0 ! index",
                "lock -1 0 ! index; lock 0 0 = -1; lock 9 0 = -1; lock 10 0 ! index; except 0 -1 1 ! index; except 0 0 1 = 1; except 0 9 1 = 1; except 0 10 1 ! index",
                "value -1 ! index; value 0 = 5; value 9 = 5; value 10 ! index; set -1 ! index; set 0 = 10505; set 9 = 10505; set 10 ! index",
                "setAnew -1 ! index; setAnew 0 = 10505; setAnew 9 = 10505; setAnew 10 ! index; policy -1 0 0 ! index; policy 0 0 0 = 0; policy 9 0 0 = 1; policy 10 0 0 ! index");
        sentence("a field has a set of the values 0 to 63, at first all", "set 0 = 640063; set 1 = 640063; set 2 = 640063; set 3 = 640063; set 4 = 640063; set 5 = 640063; set 6 = 640063",
                "set 7 = 640063; set 8 = 640063; set 9 = 640063; tell 0 0 0 -1 0 ! argument; tell 0 0 0 64 0 ! argument; tell 0 0 0 0 0; tell 0 0 1 63 0; set 0 = 10000; set 1 = 16363");
        sentence("There are the files 0 to 5", "tell -1 0 0 5 0 ! index; tell 0 0 0 5 0 = 0; tell 5 0 1 5 0 = 1; tell 6 0 0 5 0 ! index; setLayer -1 1 ! index; setLayer 0 1 = 0; setLayer 5 1 = 0; setLayer 6 1 ! index",
                "except -1 0 1 ! index; except 0 0 1 = 1; except 5 0 1 = 1; except 6 0 1 ! index");
        sentence("each in a layer, 0 to 3, at first 0", "setLayer 0 -1 ! index; setLayer 0 4 ! index; setLayer 0 3 = 0; setLayer 1 3 = 0; setLayer 2 3 = 0; setLayer 3 3 = 0; setLayer 4 3 = 0; setLayer 5 3 = 0; setLayer 5 0 = 3; setLayer 5 0 = 0",
                "lock 0 -2 ! index; lock 0 4 ! index; lock 0 3 = -1; lock 0 0 = 3; lock 0 -1 = 0; lock 0 -1 = -1");
    }

    private static void packages() {
        sentence("the packages 0 to 2", "draft -1 0 0 5 0 ! index; draft 3 0 0 5 0 ! index; draft 0 0 0 5 0 = 0; draft 2 0 1 6 0 = 1; publish -1 ! index; publish 3 ! index; publish 0 = 1; publish 2 = 1",
                "tell 0 12 -1 1 0 ! index; tell 0 12 3 1 0 ! index; tell 0 12 0 1 0 = 2; tell 0 12 2 1 0 = 3; value 0 = 5; value 1 = 6; draft 0 12 3 1 0 ! index; draft 0 12 -1 1 0 ! index");
        sentence("with versions from 1 on, at most 3", "tell 0 12 0 0 0 ! argument; tell 0 12 0 4 0 ! argument; tell 0 12 0 1 0; tell 0 12 0 3 0; draft 0 0 0 5 0; publish 0 = 1; publish 0 = 2; publish 0 = 3; publish 0 ! state");
        sentence("its draft becomes its next version", "draft 0 0 0 5 0 = 0; publish 0 = 1; draft 0 0 0 6 0 = 1; draft 1 0 0 7 0 = 2; publish 0 = 2; tell 0 12 0 1 0; standing 0 = 0; standing 1 = -1; tell 0 12 0 2 0; standing 0 = -1; standing 1 = 0; standing 2 = -1; value 0 = 6");
        sentence("a new draft is empty", "tell 0 12 0 3 0; draft 0 0 0 5 0; publish 0 = 1; set 0 = 10505; publish 0 = 2; set 0 = 640063; draft 0 3 0 7 0; set 0 = 640063; publish 0 = 3; set 0 = 630063");
        sentence("a package with 3 versions keeps a draft, which is not published", "publish 0; publish 0; publish 0; draft 0 0 0 5 0 = 0; publish 0 ! state; tell 0 12 0 3 0; standing 0 = -1; value 0 = -1");
        sentence("the wanted version is not published: the latest one is wanted, if there is one", "tell 0 12 1 2 0 = 0; remove 0 = 0; tell 0 12 1 3 0 = 1; standing 1 = 0; draft 1 0 0 5 0 = 2; set 0 = 640063; standing 2 = -1; publish 1; set 0 = 10505; standing 2 = 0");
    }

    private static void numbersOfStatements() {
        Layerwright object = new Layerwright();
        for (int i = 0; i < 30; i++) Runs.more(object, "at most 30 in all, of files", "tell 0 3 0 " + i + " 0 = " + i);
        Runs.more(object, "at most 30 in all, of files", "tell 0 3 0 1 0 ! state; draft 0 3 0 1 0 ! state; standing 29 = 0; standing 30 ! index; set 0 = 343063; remove 29 = 29; tell 0 3 0 1 0 ! state; remove 30 ! index");
        object = new Layerwright();
        for (int i = 0; i < 30; i++) Runs.more(object, "at most 30 in all, of drafts", "draft " + i % 3 + " 3 0 " + i + " 0 = " + i);
        Runs.more(object, "at most 30 in all, of drafts", "draft 2 3 0 1 0 ! state; tell 5 3 0 1 0 ! state; publish 2 = 1; draft 2 3 0 1 0 ! state; standing 29 = -1; standing 30 ! index");
        object = new Layerwright();
        for (int i = 0; i < 29; i++) Runs.more(object, "29 statements leave room for one", "draft 0 8 0 0 0 = " + i);
        Runs.more(object, "29 statements leave room for one", "tell 0 0 0 5 0 = 29; tell 0 0 0 5 0 ! state; value 0 = 5; remove 29 = 0; value 0 = -1");
        sentence("Statements of files can be removed", "remove -1 ! index; remove 0 ! index; draft 0 0 0 5 0 = 0; remove 0 ! index; publish 0; remove 0 ! index; tell 0 0 0 5 0 = 1; remove 2 ! index; remove 1 = 0; remove 1 ! index");
        sentence("how many statements there are then", "tell 0 7 0 1 0 = 0; tell 0 12 0 2 0 = 1; tell 0 10 9 0 0 = 2; draft 0 0 1 1 0; draft 0 0 9 1 0; publish 0; draft 0 0 1 1 0; draft 0 0 2 1 0; draft 0 0 3 1 0; publish 0; draft 0 0 3 1 0; tell 5 0 0 1 0 = 9",
                "remove 9 = 6; remove 2 = 5; remove 1 = 1; remove 0 = 0");
    }

    private static void kinds() {
        sentence("kind: 0 to 12", "tell 0 -1 0 0 0 ! argument; tell 0 13 0 0 0 ! argument; draft 0 -1 0 0 0 ! argument; draft 0 13 0 0 0 ! argument; tell 0 0 0 0 0 = 0; tell 0 12 0 1 0 = 1");
        sentence("a: 0 to 63", "tell 0 1 0 -1 5 ! argument; tell 0 1 0 64 64 ! argument; tell 0 2 0 -1 5 ! argument; tell 0 2 0 64 5 ! argument; tell 0 3 0 -1 0 ! argument; tell 0 3 0 64 0 ! argument",
                "tell 0 4 0 -1 0 ! argument; tell 0 4 0 64 0 ! argument; tell 0 7 0 -1 0 ! argument; tell 0 7 0 64 0 ! argument; tell 0 1 0 63 63 = 0; tell 0 2 0 63 0 = 1; tell 0 3 0 0 0 = 2; tell 0 4 0 63 0 = 3; tell 0 7 0 63 0 = 4");
        sentence("a: a field for SAME and LESS", "tell 0 5 0 -1 0 ! index; tell 0 5 0 10 0 ! index; tell 0 6 0 -1 0 ! index; tell 0 6 0 10 0 ! index; tell 0 5 0 9 0 = 0; tell 0 6 9 0 0 = 1; draft 0 5 0 10 0 ! index; draft 0 6 0 10 0 ! index");
        sentence("a: 1 to 3 for IMPORT", "tell 0 12 0 0 0 ! argument; tell 0 12 0 4 0 ! argument; tell 0 12 0 -1 0 ! argument; tell 0 12 0 1 0 = 0; tell 0 12 0 3 0 = 1");
        sentence("a: 0 where it does not matter", "tell 0 8 0 1 0 ! argument; tell 0 9 0 1 0 ! argument; tell 0 10 0 1 0 ! argument; tell 0 11 0 1 0 ! argument; tell 0 8 0 -1 0 ! argument; tell 0 8 0 0 0 = 0; tell 0 9 0 0 0 = 1; tell 0 10 0 0 0 = 2; tell 0 11 0 0 0 = 3");
        sentence("b: a to 63 for IN", "tell 0 1 0 5 4 ! argument; tell 0 1 0 5 64 ! argument; tell 0 1 0 5 5 = 0; set 0 = 10505; tell 0 1 1 5 63 = 1; set 1 = 590563; tell 0 1 2 0 63 = 2; set 2 = 640063");
        sentence("b: 0 to 63 for EITHER", "tell 0 2 0 5 -1 ! argument; tell 0 2 0 5 64 ! argument; tell 0 2 0 5 0 = 0; set 0 = 20005; tell 0 2 1 5 63 = 1; set 1 = 20563; tell 0 2 2 5 5 = 2; set 2 = 10505");
        sentence("b: -63 to 63 for SAME", "tell 0 5 0 1 -64 ! argument; tell 0 5 0 1 64 ! argument; tell 0 5 0 1 -63 = 0; set 0 = 10000; set 1 = 16363; tell 0 5 2 3 63 = 1; set 2 = 16363; set 3 = 10000");
        for (int kind : new int[] {0, 3, 4, 6, 7, 8, 9, 10, 11}) {
            sentence("b: otherwise 0, for the kind " + kind, "tell 0 " + kind + " 0 0 1 ! argument; tell 0 " + kind + " 0 0 -1 ! argument; tell 0 " + kind + " 0 0 0 = 0");
        }
        sentence("b: otherwise 0, for IMPORT", "tell 0 12 0 1 1 ! argument; tell 0 12 0 1 -1 ! argument; tell 0 12 0 1 0 = 0");
    }

    private static void guards() {
        sentence("counts only if the set of f has no value but a", "tell 0 7 0 5 0; tell 0 0 1 3 0 = 1; tell 1 2 0 5 6; standing 1 = 10; set 1 = 640063; tell 1 3 0 6 0; standing 1 = 0; set 1 = 10303");
        sentence("so also if it has none", "tell 0 7 0 5 0; tell 0 0 1 3 0 = 1; tell 1 0 0 6 0; standing 1 = 10; tell 1 3 0 6 0; set 0 = 0; standing 1 = 0; set 1 = 10303; setAnew 1 = 10303");
        sentence("removed ones left out, the guard", "tell 0 7 0 5 0 = 0; tell 0 7 1 5 0 = 1; tell 0 0 2 3 0 = 2; tell 1 0 1 5 0; standing 2 = 0; remove 1; standing 2 = 10; remove 0; standing 2 = 0");
        sentence("removed ones left out, the statement between", "tell 0 7 0 5 0 = 0; tell 0 8 0 0 0 = 1; tell 0 0 2 3 0 = 2; standing 2 = 0; remove 1; standing 2 = 10");
        sentence("the statement that comes next: no other one", "tell 0 7 0 5 0; tell 0 4 1 3 0 = 1; tell 0 4 2 3 0 = 2; standing 1 = 10; standing 2 = 0; value 1 = -1; value 2 = 3");
        sentence("nothing comes next", "tell 0 7 0 5 0 = 0; tell 1 0 1 3 0 = 1; draft 0 0 2 3 0 = 2; publish 0; tell 2 12 0 1 0; standing 0 = 0; standing 1 = 0; standing 2 = 0; tell 0 0 3 4 0 = 4; standing 4 = 10");
        sentence("comes next in the version: not in the next version", "draft 0 7 0 5 0 = 0; publish 0; draft 0 0 1 3 0 = 1; publish 0; tell 0 12 0 2 0; standing 1 = 0; value 1 = 3");
        sentence("comes next in the version: not of another package", "draft 0 7 0 5 0; draft 1 0 1 3 0 = 1; publish 0; publish 1; tell 0 12 0 1 0; tell 0 12 1 1 0; standing 1 = 0");
        for (int kind = 0; kind <= 6; kind++) {
            String told = kind == 1 ? "3 9" : "3 0";
            sentence("if that statement is of the kinds 0 to 6: " + kind, "tell 0 7 0 5 0; tell 0 " + kind + " 1 " + told + " = 1; standing 1 = 10; set 1 = 640063; tell 1 0 0 5 0; standing 1 = 0");
        }
        sentence("if that statement is of the kinds 0 to 6: no other ones", "tell 0 7 0 5 0; tell 0 7 1 5 0 = 1; tell 0 4 2 3 0 = 2; tell 1 7 0 5 0; tell 1 8 2 0 0 = 4; tell 2 7 0 5 0; tell 2 11 3 0 0 = 6; tell 3 7 0 5 0; tell 3 12 0 1 0 = 8; draft 0 0 6 1 0",
                "publish 0; tell 4 7 0 5 0; tell 4 10 4 0 0 = 11; tell 0 0 4 1 0 = 12; standing 1 = 0; standing 4 = 0; standing 6 = 0; tainted = 8; standing 8 = 0; value 6 = 1; standing 11 = 0; standing 12 = 2; tell 5 7 0 5 0; tell 5 9 0 0 0; standing 12 = 1");
        sentence("a guard is asked anew each time", "tell 0 7 2 7 0; tell 0 0 3 8 0; tell 0 7 1 6 0; tell 0 0 2 7 0; tell 0 7 0 5 0; tell 0 0 1 6 0; set 3 = 640063; tell 1 0 0 5 0; set 3 = 10808; setAnew 3 = 10808");
    }

    private static void imports() {
        sentence("An IMPORT of a file, if it is not removed, wants its version", "draft 0 0 0 5 0; publish 0; value 0 = -1; tell 0 12 0 1 0 = 1; value 0 = 5; remove 1 = 0; value 0 = -1");
        sentence("the greatest version that is wanted", "draft 0 0 0 1 0; publish 0; draft 0 0 0 2 0; publish 0; draft 0 0 0 3 0; publish 0; tell 0 12 0 2 0 = 3; tell 1 12 0 1 0 = 4; value 0 = 2; remove 3; value 0 = 1; tell 2 12 0 3 0; value 0 = 3");
        sentence("be that the greatest one or not", "draft 0 12 1 1 0 = 0; publish 0; publish 0; draft 1 0 0 5 0; publish 1; tell 0 12 0 1 0 = 2; value 0 = 5; tell 0 12 0 2 0 = 3; standing 0 = -1; value 0 = 5; remove 2; value 0 = -1");
        sentence("where the version is not published, the latest one is wanted", "tell 0 12 0 3 0; draft 0 0 0 1 0; publish 0; value 0 = 1; draft 0 0 0 2 0; publish 0; value 0 = 2; draft 0 0 0 3 0; publish 0; value 0 = 3");
        sentence("an IMPORT of a version: where the version is not published, the latest one", "draft 0 12 1 3 0; publish 0; tell 0 12 0 1 0; draft 1 0 0 1 0; publish 1; value 0 = 1; draft 1 0 0 2 0; publish 1; value 0 = 2");
        sentence("an IMPORT of a draft wants nothing", "draft 1 0 0 5 0; publish 1; draft 0 12 1 1 0; value 0 = -1; publish 0; value 0 = -1; tell 0 12 0 1 0; value 0 = 5");
        sentence("a package that imports itself", "draft 0 12 0 2 0; draft 0 0 0 1 0; publish 0; tell 0 12 0 1 0; value 0 = 1; draft 0 0 0 2 0; publish 0; value 0 = 2; draft 0 0 0 3 0; publish 0; value 0 = 2");
    }

    private static void whatThereIs() {
        sentence("Returns -1 if it is not one of those that there are", "standing 0 ! index; standing -1 ! index; tell 0 0 0 5 0 = 0; standing 0 = 0; standing 1 ! index; remove 0 = 0; standing 0 = -1; draft 0 8 0 0 0 = 1; standing 1 = -1; publish 0; standing 1 = -1; tell 0 12 0 1 0 = 2; standing 1 = 0");
        sentence("otherwise 0, or 10 if its guard does not hold by the sets without defaults", "tell 0 4 0 5 0; tell 0 7 0 5 0; tell 0 4 1 3 0 = 2; value 0 = 5; value 1 = 3; standing 2 = 10; standing 1 = 0; tell 1 0 0 5 0; standing 2 = 0");
        sentence("a guard at a locked, hidden and unlisted field is not at fault", "tell 0 7 0 5 0 = 0; lock 0 3; tell 1 10 0 0 0; tell 1 9 0 0 0; standing 0 = 0; tell 1 11 0 0 0 = 3; standing 3 = 0");
    }

    private static void faults() {
        sentence("1: there is a CLOSE, and f is not listed", "tell 0 0 0 5 0 = 0; standing 0 = 0; tell 1 9 0 0 0 = 1; standing 0 = 1; tell 2 8 0 0 0 = 2; standing 0 = 0; remove 2; standing 0 = 1; remove 1; standing 0 = 0");
        sentence("or for SAME and LESS the field a, is not listed", "tell 0 9 5 0 0; tell 0 8 0 0 0; tell 0 5 0 1 0 = 2; tell 0 6 0 1 0 = 3; tell 0 5 0 0 0 = 4; standing 2 = 1; standing 3 = 1; standing 4 = 0; tell 1 8 1 0 0; standing 2 = 0; standing 3 = 0");
        sentence("a is no field for the other kinds", "tell 0 9 0 0 0; tell 0 8 0 0 0; tell 0 0 0 1 0 = 2; tell 0 1 0 1 2 = 3; tell 0 2 0 1 1 = 4; tell 0 3 0 2 0 = 5; tell 0 4 0 1 0 = 6; standing 2 = 0; standing 3 = 0; standing 4 = 0; standing 5 = 0; standing 6 = 0");
        sentence("a CLOSE and a LIST of a version that is not wanted", "draft 0 9 0 0 0; publish 0; draft 1 8 0 0 0; publish 1; tell 0 0 0 5 0 = 2; standing 2 = 0; tell 1 12 0 1 0 = 3; standing 2 = 1; tell 1 12 1 1 0 = 4; standing 2 = 0; remove 4; standing 2 = 1");
        sentence("2: hidden by a statement of another file", "tell 0 10 0 0 0 = 0; tell 0 0 0 5 0 = 1; tell 1 0 0 5 0 = 2; standing 1 = 0; standing 2 = 2; tell 1 5 1 0 0 = 3; tell 1 6 1 0 0 = 4; standing 3 = 2; standing 4 = 2; remove 0; standing 2 = 0; standing 3 = 0; standing 4 = 0");
        sentence("2: hidden by a statement of another package", "draft 0 10 0 0 0; draft 0 0 0 5 0 = 1; publish 0; draft 1 0 0 5 0 = 2; publish 1; tell 0 12 0 1 0 = 3; tell 0 12 1 1 0; tell 5 0 0 5 0 = 5; standing 1 = 0; standing 2 = 2; standing 5 = 2");
        sentence("hidden by its own file and by another one", "tell 0 10 0 0 0; tell 1 10 0 0 0 = 1; tell 0 0 0 5 0 = 2; tell 1 0 0 5 0 = 3; standing 2 = 2; standing 3 = 2; remove 1; standing 2 = 0; standing 3 = 2");
        sentence("for the first one of these reasons", "lock 0 3; tell 0 0 0 5 0 = 0; tell 1 10 0 0 0 = 1; tell 1 9 0 0 0 = 2; standing 0 = 1; tell 1 8 0 0 0 = 3; standing 0 = 2; remove 1; standing 0 = 3; lock 0 0; standing 0 = 0");
        sentence("is at fault, and does not count", "tell 0 0 0 5 0; tell 0 4 1 5 0; tell 1 0 2 5 0; tell 2 10 0 0 0; tell 2 10 1 0 0; lock 2 3; value 0 = -1; value 1 = -1; value 2 = -1; set 0 = 640063; set 2 = 640063; pending = -1");
    }

    private static void locksAndExceptions() {
        sentence("3: the kind is not DEFAULT", "lock 0 1; tell 0 4 0 5 0 = 0; tell 0 3 0 5 0 = 1; standing 0 = 0; standing 1 = 3; draft 0 4 0 5 0 = 2; publish 0; tell 0 12 0 1 0; standing 2 = 0");
        sentence("a file in another layer", "lock 0 1; tell 0 0 0 5 0 = 0; setLayer 0 0; standing 0 = 3; setLayer 0 1; standing 0 = 0; setLayer 0 2; standing 0 = 3; setLayer 0 3; standing 0 = 3; lock 0 3; standing 0 = 0; lock 0 0; standing 0 = 3");
        sentence("the statement is of a package", "lock 0 0; draft 0 0 0 5 0 = 0; publish 0; tell 0 12 0 1 0; standing 0 = 3; except 0 0 5; standing 0 = 3; lock 0 -1; standing 0 = 0");
        sentence("f is locked: not the field a", "lock 1 3; tell 0 5 0 1 0 = 0; tell 0 6 0 1 0 = 1; standing 0 = 0; standing 1 = 0; lock 0 3; standing 0 = 3; standing 1 = 3");
        sentence("an exception that has not lapsed: from then on it holds no more", "lock 0 1; tell 0 0 0 5 0 = 0; pass 7; except 0 0 2 = 9; standing 0 = 0; pass 1; standing 0 = 0; pass 1; standing 0 = 3; pass 1; standing 0 = 3");
        sentence("in place of an earlier one, a longer and a shorter one", "lock 0 1; tell 0 0 0 5 0 = 0; except 0 0 1 = 1; except 0 0 3 = 3; pass 2; standing 0 = 0; except 0 0 30 = 32; except 0 0 1 = 3; pass 1; standing 0 = 3");
        sentence("in place of another one: a lock", "tell 0 0 0 5 0 = 0; lock 0 2 = -1; standing 0 = 3; lock 0 0 = 2; standing 0 = 0; lock 0 -1 = 0; standing 0 = 0");
        sentence("an exception to a file, from the lock of a field", "lock 0 1; lock 1 1; tell 0 0 0 5 0 = 0; tell 0 0 1 5 0 = 1; tell 1 0 0 5 0 = 2; except 0 0 5; standing 0 = 0; standing 1 = 3; standing 2 = 3");
        sentence("days: 1 to 30", "except 0 0 0 ! argument; except 0 0 31 ! argument; except 0 0 -1 ! argument; except 0 0 1 = 1; except 0 0 30 = 30; pass 0 ! argument; pass 31 ! argument; pass -1 ! argument; pass 1 = 1; pass 30 = 31; except 0 0 1 = 32");
    }

    private static void narrowing() {
        sentence("SAME, within 0 to 63: nothing below 0", "tell 0 5 0 1 -3; set 0 = 610060; set 1 = 610363; tell 0 1 1 0 2; set 0 = 0; set 1 = 0");
        sentence("SAME, within 0 to 63: nothing above 63", "tell 0 5 0 1 3; set 0 = 610363; set 1 = 610060; tell 0 1 1 61 63; set 0 = 0; set 1 = 0");
        sentence("SAME, taken off", "tell 0 5 0 1 3; tell 0 2 0 3 63; set 1 = 20060; setAnew 1 = 20060");
        sentence("SAME of an empty set", "tell 0 0 1 5 0; tell 0 0 1 6 0; tell 0 5 0 1 0; tell 0 5 2 0 0; set 0 = 0; set 2 = 0; set 3 = 640063");
        sentence("LESS, less than the greatest value", "tell 0 6 0 1 0; tell 0 2 1 1 7; set 0 = 70006; set 1 = 20107; tell 0 0 1 1 0; set 0 = 10000; set 1 = 10101");
        sentence("LESS, greater than the least value", "tell 0 6 0 1 0; tell 0 2 0 60 62; set 1 = 36163; tell 0 0 0 62 0; set 1 = 16363");
        sentence("LESS, less than 0 and greater than 63", "tell 0 6 0 1 0; tell 0 0 1 0 0; set 0 = 0; tell 0 6 2 3 0; tell 0 0 2 63 0; set 3 = 0; set 2 = 0");
        sentence("LESS, nothing, if the set asked is empty", "tell 0 0 1 5 0; tell 0 0 1 6 0; set 1 = 0; tell 1 6 0 1 0; set 0 = 0; tell 1 6 1 2 0; set 2 = 0; setAnew 2 = 0; set 3 = 640063");
        sentence("LESS, a chain through all fields", "tell 0 6 0 1 0; tell 0 6 1 2 0; tell 0 6 2 3 0; tell 0 6 3 4 0; tell 0 6 4 5 0; tell 0 6 5 6 0; tell 0 6 6 7 0; tell 0 6 7 8 0; tell 0 6 8 9 0; set 0 = 550054; set 9 = 550963; set 4 = 550458; setAnew 4 = 550458",
                "tell 1 0 0 54 0; value 9 = 63; value 4 = 58; tell 1 3 9 63 0; set 0 = 0; value 4 = -2");
        sentence("going through all until no set changes any more", "tell 0 6 0 1 0; tell 0 5 1 0 1; tell 0 5 0 2 0; tell 0 6 1 2 0; set 0 = 0; set 1 = 0; set 2 = 0; setAnew 0 = 0; value 0 = -2");
        sentence("until no set changes any more: one of two at a time", "tell 0 5 2 1 0; tell 0 5 1 0 0; tell 0 0 0 5 0; value 2 = 5; set 2 = 10505; setAnew 2 = 10505; tell 1 5 3 4 0; tell 1 5 4 5 0; tell 1 3 5 0 0; set 3 = 630163; setAnew 3 = 630163");
        sentence("0 if it has none", "set 0 = 640063; tell 0 0 0 0 0; set 0 = 10000; setAnew 0 = 10000; tell 0 3 0 0 0; set 0 = 0; setAnew 0 = 0");
    }

    private static void conflicts() {
        sentence("If a set is empty, there is a conflict", "tell 0 0 9 5 0; conflict = 0; value 9 = 5; tell 0 3 9 5 0; conflict = 3; value 0 = -2; value 9 = -2; set 0 = 640063; pending = -1");
        sentence("the value, -1 if it is not settled, -2 if there is a conflict", "value 3 = -1; tell 0 2 3 4 5; value 3 = -1; tell 0 3 3 5 0; value 3 = 4; tell 0 3 3 4 0; value 3 = -2; value 4 = -2");
    }

    private static void defaults() {
        sentence("for each whose set has several values", "tell 0 2 0 5 6; tell 0 4 0 6 0; value 0 = 6; tell 1 3 0 6 0; value 0 = 5; tell 0 4 1 7 0; value 1 = 7");
        sentence("by rising fields", "tell 0 5 1 0 1; tell 0 4 1 9 0; tell 0 4 0 3 0 = 2; value 0 = 3; value 1 = 4; remove 2; value 1 = 9; value 0 = 8");
        sentence("those of files in the greatest layer among them", "tell 0 4 0 1 0; tell 1 4 0 2 0; tell 2 4 0 3 0; setLayer 1 2; setLayer 2 1; value 0 = 2; setLayer 2 3; value 0 = 3; setLayer 0 3; value 0 = -1");
        sentence("of packages, if there are none of files", "draft 0 4 0 1 0; publish 0; tell 5 12 0 1 0; value 0 = 1; tell 0 4 0 2 0 = 2; value 0 = 2; remove 2; value 0 = 1");
        sentence("of those that count by then", "tell 0 7 1 5 0; tell 0 4 0 2 0; tell 1 4 0 1 0; setLayer 0 1; value 0 = 1; tell 2 0 1 5 0; value 0 = 2");
        sentence("no lower layer is asked in place of that", "tell 0 4 0 1 0; tell 1 4 0 9 0; setLayer 1 1; tell 2 1 0 0 8 = 2; value 0 = -1; remove 2; value 0 = 9; draft 0 4 3 1 0; publish 0; tell 0 12 0 1 0; value 3 = 1; tell 1 4 3 9 0; tell 2 1 3 0 8; value 3 = -1");
        sentence("as far as their values are in the set; if that is just one value", "tell 0 4 0 1 0; tell 0 4 0 9 0; value 0 = -1; tell 1 1 0 0 8; value 0 = 1; tell 0 4 0 1 0; value 0 = 1; tell 0 4 0 8 0; value 0 = -1");
        sentence("if that is just one value: of two values none is taken", "tell 0 6 0 1 0; tell 0 4 0 5 0; tell 0 4 0 6 0 = 2; tell 0 4 1 3 0; value 0 = -1; value 1 = 3; remove 2; value 0 = 5; value 1 = -1");
        sentence("if that is just one value: of no value none is taken", "tell 0 6 0 1 0; tell 0 1 0 0 4; tell 0 4 0 5 0; tell 0 4 1 1 0; value 1 = 1; value 0 = 0; conflict = 0");
        sentence("if there was a conflict then, all is as before that, and the default yields", "tell 0 6 0 1 0; tell 0 1 1 0 9; tell 0 4 0 8 0 = 2; value 0 = 8; value 1 = 9; tell 1 7 1 9 0; tell 1 3 0 8 0; value 0 = -1; value 1 = -1; set 0 = 90008; tell 0 4 1 4 0; value 1 = 4; value 0 = -1");
        sentence("A field whose set has one value then is settled", "tell 0 5 1 0 1; tell 0 4 0 62 0; value 1 = 63; set 1 = 630163; tell 0 6 0 2 0; value 2 = 63");
        sentence("If there is no conflict, defaults are taken", "tell 0 4 0 5 0; value 0 = 5; tell 0 0 1 1 0; tell 0 0 1 2 0; value 0 = -2; set 0 = 640063");
    }

    private static void leastConflicts() {
        sentence("0 if there is no conflict", "conflict = 0; tell 0 0 0 5 0; tell 0 4 0 6 0; conflict = 0");
        sentence("of a single statement", "tell 0 6 3 3 0; conflict = 1; tell 0 5 4 4 1; conflict = 1; remove 0; conflict = 2");
        sentence("as few as possible, at most 3", "tell 0 5 1 0 5; tell 0 5 2 1 5; tell 0 5 3 2 5; tell 0 1 0 0 3; tell 0 1 3 19 63; conflict = -1; tell 0 1 2 14 63; conflict = -1; tell 0 1 1 9 63; conflict = 73; tell 0 1 1 4 4; conflict = 129; tell 0 6 9 9 0; conflict = 256");
        sentence("-1 if it takes more than 3", "tell 0 1 0 0 2; tell 0 3 0 0 0; tell 0 3 0 1 0; conflict = 0; tell 0 3 0 2 0; conflict = -1; remove 1; tell 0 0 0 0 0; conflict = 0; tell 0 1 0 1 2; conflict = 48");
        sentence("whose numbers, as bits, are the least number", "tell 0 0 0 1 0; tell 0 0 1 1 0; tell 0 0 1 2 0; tell 0 0 0 2 0; conflict = 6; remove 1; conflict = 9");
        sentence("all guards held for true", "tell 0 7 0 5 0; tell 0 0 1 1 0 = 1; tell 1 7 0 5 0; tell 1 0 1 2 0 = 3; conflict = 0; tell 2 0 0 5 0; conflict = 10");
        sentence("of those that count by the sets without defaults", "tell 0 4 0 5 0; tell 0 7 0 5 0; tell 0 0 1 1 0 = 2; tell 1 0 1 2 0 = 3; conflict = 0; value 0 = -1; tell 2 0 1 3 0 = 4; conflict = 24; set 1 = 0");
    }

    private static void policies() {
        sentence("from 0 to 63, to from from to 63", "policy 0 -1 0 ! argument; policy 0 64 64 ! argument; policy 0 5 4 ! argument; policy 0 0 64 ! argument; policy 0 0 0 = 0; policy 0 63 63 = 1; policy 0 0 63 = 2; policy 0 5 5 = 3");
        sentence("if there are 8", "policy 0 0 0 = 0; policy 0 0 0 = 1; policy 0 0 0 = 2; policy 0 0 0 = 3; policy 0 0 0 = 4; policy 0 0 0 = 5; policy 0 0 0 = 6; policy 9 0 63 = 7; policy 0 0 0 ! state; proof 7 = -1; proof 8 ! index; proof -1 ! index");
        sentence("it is proved, if the set of the field has no other value", "policy 0 4 6; proof 0 = 0; tell 0 1 0 3 6; proof 0 = 3; tell 0 3 0 3 0; proof 0 = -1; remove 1; remove 0; tell 0 1 0 4 7; proof 0 = 7; tell 0 3 0 7 0; proof 0 = -1");
        sentence("the least value that the field could take and should not", "policy 0 4 6; tell 0 2 0 7 60; proof 0 = 7; tell 0 3 0 7 0; proof 0 = 60; policy 1 1 63 = 1; proof 1 = 0; policy 1 0 62 = 2; proof 2 = 63");
        sentence("and is not empty; -2 if its set is empty", "policy 0 0 63; policy 1 0 63; tell 0 6 0 0 0; proof 0 = -2; proof 1 = -1; policy 0 5 5 = 2; proof 2 = -2");
        sentence("ahead of defaults", "policy 0 5 5; tell 0 4 0 5 0; value 0 = 5; proof 0 = 0; tell 0 1 0 5 6; proof 0 = 6");
    }

    private static void tainted() {
        sentence("A field is tainted if it is secret", "tell 0 11 0 0 0 = 0; tell 0 11 9 0 0 = 1; tainted = 513; remove 1; tainted = 1; remove 0; tainted = 0");
        sentence("a SAME or LESS that counts joins it with a tainted field", "tell 0 11 5 0 0; tell 0 5 0 5 0; tell 0 6 5 1 0; tell 0 5 2 1 0; tell 0 2 3 5 5; tell 0 0 4 5 0; tainted = 39");
        sentence("that counts by the sets without defaults", "tell 0 11 5 0 0; tell 1 7 9 1 0; tell 1 5 0 5 0 = 2; tell 2 4 9 1 0; standing 2 = 10; tainted = 32; tell 2 0 9 1 0; tainted = 33");
        sentence("guarded by a WHEN on a tainted field, be the guard true or not", "tell 0 11 5 0 0; tell 0 7 5 1 0; tell 0 4 0 1 0 = 2; standing 2 = 10; tainted = 33; tell 1 0 5 1 0; standing 2 = 0; tainted = 33");
        sentence("or that joins it with another one, is guarded", "tell 0 11 5 0 0; tell 0 7 5 1 0; tell 0 6 0 1 0 = 2; standing 2 = 10; tainted = 35");
        sentence("Statements at fault do not matter for that", "tell 0 11 5 0 0; tell 0 5 0 5 0 = 1; tell 0 7 5 1 0; tell 0 0 1 1 0 = 3; tainted = 35; lock 0 3; tainted = 34; lock 1 3; standing 1 = 3; standing 3 = 3; tainted = 32");
    }
}

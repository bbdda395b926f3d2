/** Everything that can be asked of an object, as one text. */
final class Snapshot {
    private static final int PLANS = 40, INDEXES = 128, RESOURCES = 60, POLICIES = 8, STATEMENTS = 30;

    private Snapshot() {
    }

    static String of(Object object) {
        StringBuilder text = new StringBuilder();
        rows(text, object, "standing", STATEMENTS);
        rows(text, object, "value", 10);
        rows(text, object, "set", 10);
        rows(text, object, "setAnew", 10);
        rows(text, object, "proof", POLICIES);
        for (String name : new String[] {"conflict", "tainted", "pending", "differing", "isApplying",
            "isLocked", "serial", "resources"}) {
            text.append(name).append(' ').append(Runs.answerOf(object, name)).append('\n');
        }
        rows(text, object, "entry", 64);
        tables(text, object, "given", 64, 3);
        tables(text, object, "stored", 64, 3);
        tables(text, object, "real", RESOURCES, 3);
        rows(text, object, "isStale", PLANS);
        tables(text, object, "action", PLANS, INDEXES);
        return text.toString();
    }

    /** Stops at the first number that does not exist. */
    private static void rows(StringBuilder text, Object object, String name, int count) {
        text.append(name);
        for (int i = 0; i < count; i++) {
            String answer = Runs.answerOf(object, name, i);
            text.append(' ').append(answer);
            if (answer.startsWith("!")) break;
        }
        text.append('\n');
    }

    private static void tables(StringBuilder text, Object object, String name, int count, int columns) {
        text.append(name);
        for (int i = 0; i < count; i++) {
            boolean exists = true;
            for (int j = 0; j < columns && exists; j++) {
                String answer = Runs.answerOf(object, name, i, j);
                text.append(' ').append(answer);
                exists = !answer.startsWith("!");
            }
            text.append('\n');
        }
    }
}

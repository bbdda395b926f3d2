import java.util.Arrays;

/**
 * A configuration platform: statements narrow the values of fields, generators make
 * resources out of fields, and plans bring the world to what is wanted, step by step.
 */
public final class Layerwright {

    /** What is told in place of a value. */
    public static final int NONE = -1, CONFLICT = -2;

    private static final int FIELDS = 10, GREATEST = 63, FILES = 6, LAYERS = 4;
    private static final int PACKAGES = 3, VERSIONS = 3, STATEMENTS = 30, POLICIES = 8;
    private static final int TYPES = 3, ATTRIBUTES = 3, UPGRADES = 2;
    private static final int GENERATORS = 4, KEYS = 16, ROW = 8, NAMES = 64;
    private static final int RESOURCES = 60, REAL_GREATEST = 255;
    private static final int PLANS = 40, TEAMS = 3, ACTIONS = 128, LOCK_DAYS = 3;
    private static final int DAYS = 30;

    private static final int IS = 0, IN = 1, EITHER = 2, NOT = 3, DEFAULT = 4, SAME = 5, LESS = 6;
    private static final int WHEN = 7, LIST = 8, CLOSE = 9, HIDE = 10, SECRET = 11, IMPORT = 12;

    private static final int NOT_LISTED = 1, HIDDEN = 2, LOCKED = 3, UNGUARDED = 10;
    private static final int FORCES = 1, COMPUTED = 2, WRITE_ONLY = 4, ALL_TRAITS = 7;
    private static final int MAKE = 1, CHANGE = 2, DESTROY = 3, RETIRE = 4;
    private static final int WELL = 0, FAILING = 1, DYING = 2;

    /** The number of the attribute 0 of the generator 0, told as a source. */
    private static final int FIRST_ATTRIBUTE = 10;

    /** Far above the 640 values that all sets together can lose. */
    private static final int ROUNDS = 1000000;

    private final Book book = new Book();
    private final Values values = new Values(book);
    private final Estate estate = new Estate();
    private final Comparison comparison = new Comparison(values, estate);
    private final Applying applying = new Applying(estate, comparison);

    private final int[] policyFields = new int[POLICIES];
    private final long[] policyMasks = new long[POLICIES];
    private int policyCount;

    private final Plan[] plans = new Plan[PLANS];
    private int planCount;

    public Layerwright() {
    }

    // ---- statements

    public int tell(int file, int kind, int field, int a, int b)
            throws IndexOutOfBoundsException, IllegalArgumentException, IllegalStateException {
        needIndex(isBelow(file, FILES));
        needStatement(kind, field, a, b);
        return addStatement(new Statement(file, NONE, kind, field, a, b));
    }

    public int draft(int of, int kind, int field, int a, int b)
            throws IndexOutOfBoundsException, IllegalArgumentException, IllegalStateException {
        needIndex(isBelow(of, PACKAGES));
        needStatement(kind, field, a, b);
        return addStatement(new Statement(NONE, of, kind, field, a, b));
    }

    public int publish(int of) throws IndexOutOfBoundsException, IllegalStateException {
        needIndex(isBelow(of, PACKAGES));
        needState(book.versions[of] < VERSIONS);
        values.forget();
        return book.closeDraft(of);
    }

    public int remove(int statement) throws IndexOutOfBoundsException {
        needIndex(isBelow(statement, book.count));
        Statement told = book.statements[statement];
        needIndex(told.file != NONE && !told.isRemoved);
        told.isRemoved = true;
        values.forget();
        values.settle();
        return book.countThere();
    }

    public int setLayer(int file, int layer) throws IndexOutOfBoundsException {
        needIndex(isBelow(file, FILES) && isBelow(layer, LAYERS));
        int before = book.layers[file];
        book.layers[file] = layer;
        values.forget();
        return before;
    }

    public int lock(int field, int layer) throws IndexOutOfBoundsException {
        needIndex(isBelow(field, FIELDS) && (layer == NONE || isBelow(layer, LAYERS)));
        int before = book.locks[field];
        book.locks[field] = layer;
        values.forget();
        return before;
    }

    public int except(int file, int field, int days)
            throws IndexOutOfBoundsException, IllegalArgumentException {
        needIndex(isBelow(file, FILES) && isBelow(field, FIELDS));
        needArgument(isWithin(days, 1, DAYS));
        int lapse = book.today + days;
        book.lapses[file * FIELDS + field] = lapse;
        values.forget();
        return lapse;
    }

    public int pass(int days) throws IllegalArgumentException {
        needArgument(isWithin(days, 1, DAYS));
        book.today += days;
        values.forget();
        applying.dayComes(book.today);
        return book.today;
    }

    // ---- values

    public int standing(int statement) throws IndexOutOfBoundsException {
        needIndex(isBelow(statement, book.count));
        values.settle();
        Statement told = book.statements[statement];
        if (!told.isThere) return NONE;
        if (told.fault != 0) return told.fault;
        return told.isNarrowing() && !told.counts ? UNGUARDED : 0;
    }

    public int value(int field) throws IndexOutOfBoundsException {
        needIndex(isBelow(field, FIELDS));
        values.settle();
        return values.found[field];
    }

    public int set(int field) throws IndexOutOfBoundsException {
        needIndex(isBelow(field, FIELDS));
        values.settle();
        return values.bare.summary(field);
    }

    public int setAnew(int field) throws IndexOutOfBoundsException {
        needIndex(isBelow(field, FIELDS));
        values.settle();
        return values.narrowBackwards().summary(field);
    }

    public int conflict() {
        values.settle();
        return values.leastConflict();
    }

    public int policy(int field, int from, int to)
            throws IndexOutOfBoundsException, IllegalArgumentException, IllegalStateException {
        needIndex(isBelow(field, FIELDS));
        needArgument(isWithin(from, 0, GREATEST) && isWithin(to, from, GREATEST));
        needState(policyCount < POLICIES);
        policyFields[policyCount] = field;
        policyMasks[policyCount] = Sets.range(from, to);
        policyCount++;
        return policyCount - 1;
    }

    public int proof(int policy) throws IndexOutOfBoundsException {
        needIndex(isBelow(policy, policyCount));
        values.settle();
        long set = values.bare.sets[policyFields[policy]];
        if (set == 0) return CONFLICT;
        long outside = set & ~policyMasks[policy];
        return outside == 0 ? NONE : Sets.least(outside);
    }

    public int tainted() {
        values.settle();
        return values.taintedFields;
    }

    // ---- types and generators

    public void setType(int type, int first, int second, int third, boolean isMadeFirst, boolean adopts)
            throws IndexOutOfBoundsException, IllegalArgumentException, IllegalStateException {
        needIndex(isBelow(type, TYPES));
        needArgument(isWithin(first, 0, ALL_TRAITS) && isWithin(second, 0, ALL_TRAITS)
                && isWithin(third, 0, ALL_TRAITS));
        needState(!estate.isInUse(type));
        Type kind = estate.types[type];
        kind.traits[0] = first;
        kind.traits[1] = second;
        kind.traits[2] = third;
        kind.isMadeFirst = isMadeFirst;
        kind.adopts = adopts;
    }

    public int generator(int type) throws IndexOutOfBoundsException, IllegalStateException {
        needIndex(isBelow(type, TYPES));
        needState(estate.generatorCount < GENERATORS);
        return estate.addGenerator(type);
    }

    public int key(int generator, int place, int key)
            throws IndexOutOfBoundsException, IllegalArgumentException, IllegalStateException {
        needIndex(isBelow(generator, estate.generatorCount));
        Generator maker = estate.generators[generator];
        needIndex(isWithin(place, 0, maker.keyCount));
        needArgument(isBelow(key, KEYS));
        needState(!maker.hasKey(key) && maker.keyCount < ROW);
        maker.putKey(place, key);
        return maker.keyCount;
    }

    public int unkey(int generator, int place) throws IndexOutOfBoundsException {
        needIndex(isBelow(generator, estate.generatorCount));
        Generator maker = estate.generators[generator];
        needIndex(isBelow(place, maker.keyCount));
        return maker.takeKey(place);
    }

    public int bind(int generator, int attribute, int source)
            throws IndexOutOfBoundsException, IllegalStateException {
        needIndex(isBelow(generator, estate.generatorCount) && isBelow(attribute, ATTRIBUTES));
        needIndex(isWithin(source, NONE, FIRST_ATTRIBUTE + ATTRIBUTES * generator - 1));
        needState(!estate.typeOfGenerator(generator).is(attribute, COMPUTED));
        needState(source < FIRST_ATTRIBUTE || estate.isComputedSource(source));
        Generator maker = estate.generators[generator];
        int before = maker.sources[attribute];
        maker.sources[attribute] = source;
        return before;
    }

    public int upgrade(int type) throws IndexOutOfBoundsException, IllegalStateException {
        needIndex(isBelow(type, TYPES));
        needState(estate.types[type].upgrades < UPGRADES && !applying.isStateLocked);
        estate.upgradeType(type);
        return estate.types[type].upgrades;
    }

    public int given(int name, int attribute) throws IndexOutOfBoundsException {
        needIndex(estate.isName(name) && isBelow(attribute, ATTRIBUTES));
        values.settle();
        comparison.lookAtAll();
        return comparison.gives[name * ATTRIBUTES + attribute];
    }

    // ---- plans

    public int pending() {
        values.settle();
        return comparison.listActions();
    }

    public int differing() {
        values.settle();
        return comparison.countDiffering();
    }

    public int plan(int team) throws IndexOutOfBoundsException, IllegalStateException {
        needIndex(isBelow(team, TEAMS));
        needState(planCount < PLANS);
        values.settle();
        int count = comparison.listActions();
        needState(count != NONE);
        plans[planCount] = new Plan(team, estate.serial, Arrays.copyOf(comparison.actions, count));
        planCount++;
        return planCount - 1;
    }

    public int action(int plan, int index) throws IndexOutOfBoundsException {
        needIndex(isBelow(plan, planCount));
        needIndex(isBelow(index, plans[plan].actions.length));
        return plans[plan].actions[index];
    }

    public boolean approve(int plan, int team) throws IndexOutOfBoundsException, IllegalStateException {
        needIndex(isBelow(plan, planCount) && isBelow(team, TEAMS));
        needState(plans[plan].team != team);
        boolean isNew = !plans[plan].isApproved;
        plans[plan].isApproved = true;
        return isNew;
    }

    public boolean isStale(int plan) throws IndexOutOfBoundsException {
        needIndex(isBelow(plan, planCount));
        values.settle();
        comparison.listActions();
        return plans[plan].serial != estate.serial || !comparison.hasAllOf(plans[plan].actions);
    }

    public boolean rebase(int plan) throws IndexOutOfBoundsException, IllegalStateException {
        needIndex(isBelow(plan, planCount));
        needState(!plans[plan].hasBegun);
        values.settle();
        comparison.listActions();
        if (!comparison.hasAllOf(plans[plan].actions)) return false;
        plans[plan].serial = estate.serial;
        return true;
    }

    // ---- applying

    public int apply(int plan) throws IndexOutOfBoundsException, IllegalStateException {
        needIndex(isBelow(plan, planCount));
        Plan chosen = plans[plan];
        needState(chosen.isApproved && !chosen.hasBegun && chosen.actions.length > 0);
        needState(chosen.serial == estate.serial && !applying.isStateLocked);
        values.settle();
        comparison.listActions();
        needState(comparison.hasAllOf(chosen.actions));
        applying.begin(chosen, book.today);
        return chosen.actions.length;
    }

    public int step(int how) throws IllegalArgumentException, IllegalStateException {
        needArgument(isWithin(how, WELL, DYING));
        needState(applying.isOn());
        values.settle();
        return applying.doNext(how);
    }

    public boolean isApplying() {
        return applying.isOn();
    }

    public boolean isLocked() {
        return applying.isStateLocked;
    }

    public int serial() {
        return estate.serial;
    }

    // ---- the world and the state

    public int entry(int name) throws IndexOutOfBoundsException {
        needIndex(estate.isName(name));
        Entry found = estate.entries[name];
        if (found == null) return NONE;
        return 100 * found.resource + 10 * found.adopted + (found.isTainted ? 1 : 0);
    }

    public int stored(int name, int attribute) throws IndexOutOfBoundsException {
        needIndex(estate.isName(name) && isBelow(attribute, ATTRIBUTES));
        Entry found = estate.entries[name];
        needIndex(found != null);
        return found.values[attribute];
    }

    public int real(int resource, int attribute) throws IndexOutOfBoundsException {
        needIndex(isBelow(resource, estate.resourceCount) && isBelow(attribute, ATTRIBUTES));
        return estate.isGone[resource] ? NONE : estate.realValues[resource * ATTRIBUTES + attribute];
    }

    public int resources() {
        return estate.resourceCount;
    }

    public int change(int resource, int attribute, int value)
            throws IndexOutOfBoundsException, IllegalArgumentException, IllegalStateException {
        needIndex(isBelow(resource, estate.resourceCount) && isBelow(attribute, ATTRIBUTES));
        needArgument(isWithin(value, 0, REAL_GREATEST));
        needState(!estate.isGone[resource]);
        int before = estate.realValues[resource * ATTRIBUTES + attribute];
        estate.realValues[resource * ATTRIBUTES + attribute] = value;
        return before;
    }

    public boolean destroy(int resource) throws IndexOutOfBoundsException {
        needIndex(isBelow(resource, estate.resourceCount));
        boolean wasThere = !estate.isGone[resource];
        estate.isGone[resource] = true;
        return wasThere;
    }

    public int make(int type) throws IndexOutOfBoundsException, IllegalStateException {
        needIndex(isBelow(type, TYPES));
        needState(estate.resourceCount < RESOURCES);
        return estate.addResource(type);
    }

    public int read() throws IllegalStateException {
        needState(!applying.isStateLocked);
        values.settle();
        return comparison.readWorld();
    }

    public int move(int name, int other) throws IndexOutOfBoundsException, IllegalStateException {
        needIndex(estate.isName(name) && estate.isName(other));
        needState(!applying.isStateLocked && estate.entries[name] != null && estate.entries[other] == null);
        needState(estate.typeNumberOf(name) == estate.typeNumberOf(other));
        estate.entries[other] = estate.entries[name];
        estate.entries[name] = null;
        estate.serial++;
        return estate.serial;
    }

    public int take(int name, int resource) throws IndexOutOfBoundsException, IllegalStateException {
        needIndex(estate.isName(name) && isBelow(resource, estate.resourceCount));
        needState(!applying.isStateLocked && estate.entries[name] == null);
        needState(!estate.isGone[resource] && !estate.hasEntry(resource));
        needState(estate.typeNumberOf(name) == estate.resourceTypes[resource]);
        estate.importResource(name, resource);
        estate.serial++;
        return estate.serial;
    }

    // ---- what calls need

    private static void needIndex(boolean exists) {
        if (!exists) throw new IndexOutOfBoundsException();
    }

    private static void needArgument(boolean isInRange) {
        if (!isInRange) throw new IllegalArgumentException();
    }

    private static void needState(boolean isPossible) {
        if (!isPossible) throw new IllegalStateException();
    }

    private static boolean isBelow(int number, int count) {
        return number >= 0 && number < count;
    }

    private static boolean isWithin(int number, int from, int to) {
        return number >= from && number <= to;
    }

    private void needStatement(int kind, int field, int a, int b) {
        needIndex(isBelow(field, kind == IMPORT ? PACKAGES : FIELDS));
        needIndex((kind != SAME && kind != LESS) || isBelow(a, FIELDS));
        needArgument(isWithin(kind, IS, IMPORT));
        needArgument(isFirstNumber(kind, a) && isSecondNumber(kind, a, b));
        needState(book.count < STATEMENTS);
    }

    /** Fields are asked for before. */
    private static boolean isFirstNumber(int kind, int a) {
        if (kind <= WHEN) return isWithin(a, 0, GREATEST);
        return kind == IMPORT ? isWithin(a, 1, VERSIONS) : a == 0;
    }

    private static boolean isSecondNumber(int kind, int a, int b) {
        switch (kind) {
            case IN: return isWithin(b, a, GREATEST);
            case EITHER: return isWithin(b, 0, GREATEST);
            case SAME: return isWithin(b, -GREATEST, GREATEST);
            default: return b == 0;
        }
    }

    private int addStatement(Statement told) {
        book.statements[book.count] = told;
        book.count++;
        values.forget();
        return book.count - 1;
    }

    /** A statement, and what the book and the values find out about it. */
    private static final class Statement {
        final int file, pack, kind, field, a, b;
        int version;
        boolean isRemoved;

        boolean isThere, counts;
        int fault;
        Statement guard;

        Statement(int file, int pack, int kind, int field, int a, int b) {
            this.file = file;
            this.pack = pack;
            this.kind = kind;
            this.field = field;
            this.a = a;
            this.b = b;
        }

        boolean isNarrowing() {
            return kind <= LESS;
        }

        boolean isJoining() {
            return kind == SAME || kind == LESS;
        }

        /** The fields that it is about, as a set. */
        int fields() {
            return (1 << field) | (isJoining() ? 1 << a : 0);
        }

        boolean isTogetherWith(Statement other) {
            return file == other.file && pack == other.pack;
        }
    }

    /** The statements, and what decides which of them there are and which are at fault. */
    private static final class Book {
        final Statement[] statements = new Statement[STATEMENTS];
        int count;
        final int[] layers = new int[FILES];
        final int[] locks = new int[FIELDS];
        /** The days on which exceptions lapse; the day 0 holds at no time. */
        final int[] lapses = new int[FILES * FIELDS];
        /** How many versions of a package are published. */
        final int[] versions = new int[PACKAGES];
        int today;

        /** The versions that are wanted of a package, as sets. */
        private final int[] wanted = new int[PACKAGES];
        private boolean isClosed;
        private int listed;

        Book() {
            Arrays.fill(locks, NONE);
        }

        int closeDraft(int pack) {
            versions[pack]++;
            for (int i = 0; i < count; i++) {
                Statement told = statements[i];
                if (told.pack == pack && told.version == 0) told.version = versions[pack];
            }
            return versions[pack];
        }

        void examine() {
            findWanted();
            isClosed = false;
            listed = 0;
            for (int i = 0; i < count; i++) {
                Statement told = statements[i];
                told.isThere = told.file != NONE ? !told.isRemoved : told.version == chosenVersion(told.pack);
                if (told.isThere && told.kind == CLOSE) isClosed = true;
                if (told.isThere && told.kind == LIST) listed |= 1 << told.field;
            }
            for (int i = 0; i < count; i++) {
                statements[i].guard = findGuard(i);
                statements[i].fault = findFault(statements[i]);
            }
        }

        int countThere() {
            int there = 0;
            for (int i = 0; i < count; i++) {
                if (statements[i].isThere) there++;
            }
            return there;
        }

        boolean hasFault() {
            for (int i = 0; i < count; i++) {
                if (statements[i].fault != 0) return true;
            }
            return false;
        }

        /** A version that is wanted can want others, so this goes on until none is added. */
        private void findWanted() {
            Arrays.fill(wanted, 0);
            boolean grows = true;
            for (int round = 0; grows && round < ROUNDS; round++) {
                grows = false;
                for (int i = 0; i < count; i++) {
                    if (statements[i].kind == IMPORT && isAsking(statements[i])) {
                        grows |= addWanted(statements[i].field, statements[i].a);
                    }
                }
            }
        }

        private boolean isAsking(Statement told) {
            if (told.file != NONE) return !told.isRemoved;
            return told.version > 0 && (wanted[told.pack] & (1 << told.version)) != 0;
        }

        private boolean addWanted(int pack, int version) {
            int published = Math.min(version, versions[pack]);
            if (published == 0 || (wanted[pack] & (1 << published)) != 0) return false;
            wanted[pack] |= 1 << published;
            return true;
        }

        /** The greatest version that is wanted, -1 for none (the draft is the version 0). */
        private int chosenVersion(int pack) {
            return 31 - Integer.numberOfLeadingZeros(wanted[pack]);
        }

        private Statement findGuard(int number) {
            Statement told = statements[number];
            if (!told.isThere || !told.isNarrowing()) return null;
            for (int i = number - 1; i >= 0; i--) {
                Statement before = statements[i];
                if (before.isThere && before.isTogetherWith(told)) {
                    return before.kind == WHEN ? before : null;
                }
            }
            return null;
        }

        private int findFault(Statement told) {
            if (!told.isThere || !told.isNarrowing()) return 0;
            if (isClosed && (told.fields() & ~listed) != 0) return NOT_LISTED;
            if (isHiddenFrom(told)) return HIDDEN;
            return isLockedFor(told) ? LOCKED : 0;
        }

        private boolean isHiddenFrom(Statement told) {
            for (int i = 0; i < count; i++) {
                Statement other = statements[i];
                if (other.isThere && other.kind == HIDE && !other.isTogetherWith(told)
                        && (told.fields() & (1 << other.field)) != 0) {
                    return true;
                }
            }
            return false;
        }

        private boolean isLockedFor(Statement told) {
            int layer = locks[told.field];
            if (layer == NONE || told.kind == DEFAULT) return false;
            if (told.file == NONE) return true;
            return layers[told.file] != layer && today >= lapses[told.file * FIELDS + told.field];
        }
    }

    /** A set of values for each field: bit v for the value v. */
    private static final class Sets {
        final long[] sets = new long[FIELDS];

        static long range(int from, int to) {
            return (-1L << from) & (-1L >>> (GREATEST - to));
        }

        static int least(long set) {
            return Long.numberOfTrailingZeros(set);
        }

        static int greatest(long set) {
            return GREATEST - Long.numberOfLeadingZeros(set);
        }

        void fill() {
            Arrays.fill(sets, -1L);
        }

        void copy(Sets other) {
            System.arraycopy(other.sets, 0, sets, 0, FIELDS);
        }

        boolean hasEmpty() {
            for (int i = 0; i < FIELDS; i++) {
                if (sets[i] == 0) return true;
            }
            return false;
        }

        boolean hasNoneBut(int field, int value) {
            return (sets[field] & ~(1L << value)) == 0;
        }

        int summary(int field) {
            long set = sets[field];
            return set == 0 ? 0 : 10000 * Long.bitCount(set) + 100 * least(set) + greatest(set);
        }

        /** Returns whether a set has changed. */
        boolean narrow(Statement told) {
            int field = told.field;
            switch (told.kind) {
                case IS: return keep(field, 1L << told.a);
                case IN: return keep(field, range(told.a, told.b));
                case EITHER: return keep(field, (1L << told.a) | (1L << told.b));
                case NOT: return keep(field, ~(1L << told.a));
                case SAME: return keep(field, moved(sets[told.a], told.b))
                        | keep(told.a, moved(sets[field], -told.b));
                case LESS: return keep(field, below(sets[told.a])) | keep(told.a, above(sets[field]));
                default: return false;
            }
        }

        private boolean keep(int field, long kept) {
            long before = sets[field];
            sets[field] = before & kept;
            return sets[field] != before;
        }

        private static long moved(long set, int by) {
            return by >= 0 ? set << by : set >>> -by;
        }

        /** Shifted twice, here and in above, since a shift by 64 would shift by nothing. */
        private static long below(long set) {
            return set == 0 ? 0 : -1L >>> Long.numberOfLeadingZeros(set) >>> 1;
        }

        private static long above(long set) {
            return set == 0 ? 0 : -1L << Long.numberOfTrailingZeros(set) << 1;
        }
    }

    /** What the statements make of the fields; found when it is asked for, kept until something is told. */
    private static final class Values {
        final Book book;
        /** Without defaults. */
        final Sets bare = new Sets();
        boolean hasConflict;
        int taintedFields;
        /** The value of each field, -1 for none, -2 for a conflict. */
        final int[] found = new int[FIELDS];

        private final Sets full = new Sets(), spare = new Sets();
        private final Statement[] suspects = new Statement[STATEMENTS];
        private final int[] suspectBits = new int[STATEMENTS], suspectFields = new int[STATEMENTS];
        private int suspectCount;
        private boolean isSettled, isConflictSought;
        private int conflictFound;

        Values(Book book) {
            this.book = book;
        }

        void forget() {
            isSettled = false;
        }

        void settle() {
            if (isSettled) return;
            book.examine();
            bare.fill();
            narrowAll(bare);
            for (int i = 0; i < book.count; i++) {
                book.statements[i].counts = isCounting(book.statements[i], bare);
            }
            hasConflict = bare.hasEmpty();
            full.copy(bare);
            if (!hasConflict) takeDefaults();
            for (int field = 0; field < FIELDS; field++) found[field] = findValue(field);
            findTainted();
            isConflictSought = false;
            isSettled = true;
        }

        private int findValue(int field) {
            if (hasConflict) return CONFLICT;
            long set = full.sets[field];
            return Long.bitCount(set) == 1 ? Sets.least(set) : NONE;
        }

        boolean isTainted(int field) {
            return (taintedFields & (1 << field)) != 0;
        }

        Sets narrowBackwards() {
            spare.fill();
            boolean changes = true;
            for (int round = 0; changes && round < ROUNDS; round++) {
                changes = false;
                for (int i = book.count - 1; i >= 0; i--) {
                    changes |= narrowOut(book.statements[i]);
                }
            }
            return spare;
        }

        private boolean narrowOut(Statement told) {
            int times = 0;
            while (times < ROUNDS && isCounting(told, spare) && spare.narrow(told)) times++;
            return times > 0;
        }

        private static boolean isCounting(Statement told, Sets sets) {
            if (!told.isThere || !told.isNarrowing() || told.fault != 0) return false;
            return told.guard == null || sets.hasNoneBut(told.guard.field, told.guard.a);
        }

        private void narrowAll(Sets sets) {
            boolean changes = true;
            for (int round = 0; changes && round < ROUNDS; round++) {
                changes = false;
                for (int i = 0; i < book.count; i++) {
                    Statement told = book.statements[i];
                    if (isCounting(told, sets)) changes |= sets.narrow(told);
                }
            }
        }

        private void takeDefaults() {
            for (int field = 0; field < FIELDS; field++) {
                long set = full.sets[field];
                long chosen = set & defaultsOf(field);
                if (Long.bitCount(set) > 1 && Long.bitCount(chosen) == 1) {
                    spare.copy(full);
                    full.sets[field] = chosen;
                    narrowAll(full);
                    if (full.hasEmpty()) full.copy(spare);
                }
            }
        }

        /** The defaults of the greatest layer that has any, packages being below all layers. */
        private long defaultsOf(int field) {
            long found = 0;
            int top = NONE;
            for (int i = 0; i < book.count; i++) {
                Statement told = book.statements[i];
                if (told.kind != DEFAULT || told.field != field || !isCounting(told, full)) continue;
                int layer = told.file == NONE ? NONE : book.layers[told.file];
                if (layer > top) {
                    top = layer;
                    found = 0;
                }
                if (layer == top) found |= 1L << told.a;
            }
            return found;
        }

        private void findTainted() {
            taintedFields = 0;
            for (int i = 0; i < book.count; i++) {
                Statement told = book.statements[i];
                if (told.isThere && told.kind == SECRET) taintedFields |= 1 << told.field;
            }
            boolean grows = true;
            for (int round = 0; grows && round < ROUNDS; round++) {
                int before = taintedFields;
                for (int i = 0; i < book.count; i++) {
                    if (isTainting(book.statements[i])) taintedFields |= book.statements[i].fields();
                }
                grows = taintedFields != before;
            }
        }

        private boolean isTainting(Statement told) {
            if (!told.isThere || !told.isNarrowing() || told.fault != 0) return false;
            if (told.guard != null && isTainted(told.guard.field)) return true;
            return told.isJoining() && told.counts && (told.fields() & taintedFields) != 0;
        }

        int leastConflict() {
            if (!isConflictSought) {
                conflictFound = hasConflict ? seekConflict() : 0;
                isConflictSought = true;
            }
            return conflictFound;
        }

        /** Fewer statements go first, and among as many those with the lesser greatest number. */
        private int seekConflict() {
            findSuspects();
            for (int i = 0; i < suspectCount; i++) {
                if (isClash(i, i, i)) return suspectBits[i];
            }
            for (int j = 0; j < suspectCount; j++) {
                for (int i = 0; i < j; i++) {
                    if (isJoined(i, j) && isClash(i, j, j)) return suspectBits[i] | suspectBits[j];
                }
            }
            return seekTriple();
        }

        private int seekTriple() {
            for (int k = 0; k < suspectCount; k++) {
                for (int j = 0; j < k; j++) {
                    for (int i = 0; i < j; i++) {
                        if (isChain(i, j, k) && isClash(i, j, k)) {
                            return suspectBits[i] | suspectBits[j] | suspectBits[k];
                        }
                    }
                }
            }
            return NONE;
        }

        private void findSuspects() {
            suspectCount = 0;
            for (int i = 0; i < book.count; i++) {
                if (book.statements[i].counts) {
                    suspects[suspectCount] = book.statements[i];
                    suspectBits[suspectCount] = 1 << i;
                    suspectFields[suspectCount] = book.statements[i].fields();
                    suspectCount++;
                }
            }
        }

        /** Statements without a common field do not clash unless fewer of them do, which was asked before. */
        private boolean isJoined(int i, int j) {
            return (suspectFields[i] & suspectFields[j]) != 0;
        }

        private boolean isChain(int i, int j, int k) {
            if (isJoined(i, j)) return isJoined(i, k) || isJoined(j, k);
            return isJoined(i, k) && isJoined(j, k);
        }

        private boolean isClash(int i, int j, int k) {
            spare.fill();
            boolean changes = true;
            for (int round = 0; changes && round < ROUNDS; round++) {
                changes = spare.narrow(suspects[i]) | spare.narrow(suspects[j]) | spare.narrow(suspects[k]);
            }
            return spare.hasEmpty();
        }
    }

    /** What the resources of a type have in common. */
    private static final class Type {
        final int[] traits = new int[ATTRIBUTES];
        boolean isMadeFirst, adopts;
        int upgrades;

        boolean is(int attribute, int trait) {
            return (traits[attribute] & trait) != 0;
        }
    }

    /** A row of keys, and the sources of the attributes of what is made for them. */
    private static final class Generator {
        final int type;
        final int[] keys = new int[ROW];
        int keyCount;
        final int[] sources = new int[ATTRIBUTES];

        Generator(int type) {
            this.type = type;
            Arrays.fill(sources, NONE);
        }

        boolean hasKey(int key) {
            for (int i = 0; i < keyCount; i++) {
                if (keys[i] == key) return true;
            }
            return false;
        }

        boolean hasKeysOf(Generator other) {
            for (int i = 0; i < other.keyCount; i++) {
                if (!hasKey(other.keys[i])) return false;
            }
            return true;
        }

        void putKey(int place, int key) {
            for (int i = keyCount; i > place; i--) keys[i] = keys[i - 1];
            keys[place] = key;
            keyCount++;
        }

        int takeKey(int place) {
            int key = keys[place];
            keyCount--;
            for (int i = place; i < keyCount; i++) keys[i] = keys[i + 1];
            return key;
        }
    }

    /** What the state tells of a name. */
    private static final class Entry {
        final int resource;
        final int[] values = new int[ATTRIBUTES];
        boolean isTainted;
        /** A set of attributes, and what their sources gave when they were adopted. */
        int adopted;
        final int[] bases = new int[ATTRIBUTES];

        Entry(int resource) {
            this.resource = resource;
        }

        void write(int attribute, int value) {
            values[attribute] = value;
            adopted &= ~(1 << attribute);
        }

        void follow(int attribute, int value, int base) {
            write(attribute, value);
            if (base != NONE) {
                adopted |= 1 << attribute;
                bases[attribute] = base;
            }
        }

        boolean isAdoptedOn(int attribute, int base) {
            return (adopted & (1 << attribute)) != 0 && bases[attribute] == base;
        }

        void turn() {
            turnRow(values, 0);
            turnRow(bases, 0);
            adopted = (adopted & 4) | ((adopted & 1) << 1) | ((adopted & 2) >> 1);
        }

        /** What an upgrade does to three values. */
        static void turnRow(int[] row, int at) {
            int first = row[at];
            row[at] = 2 * row[at + 1];
            row[at + 1] = 2 * first;
            row[at + 2] = 2 * row[at + 2];
        }
    }

    /** Types and generators, the resources in the world, and the state. */
    private static final class Estate {
        final Type[] types = new Type[TYPES];
        final Generator[] generators = new Generator[GENERATORS];
        int generatorCount;

        final int[] resourceTypes = new int[RESOURCES];
        final int[] realValues = new int[RESOURCES * ATTRIBUTES];
        final boolean[] isGone = new boolean[RESOURCES];
        int resourceCount;

        final Entry[] entries = new Entry[NAMES];
        int serial;

        /** How many resources were made for a name. */
        private final int[] made = new int[NAMES];

        Estate() {
            for (int i = 0; i < TYPES; i++) types[i] = new Type();
        }

        int names() {
            return KEYS * generatorCount;
        }

        boolean isName(int name) {
            return isBelow(name, names());
        }

        Generator generatorOf(int name) {
            return generators[name / KEYS];
        }

        Type typeOfGenerator(int generator) {
            return types[generators[generator].type];
        }

        int typeNumberOf(int name) {
            return generators[name / KEYS].type;
        }

        Type typeOf(int name) {
            return types[generators[name / KEYS].type];
        }

        boolean hasKey(int name) {
            return generators[name / KEYS].hasKey(name % KEYS);
        }

        static int generatorOfSource(int source) {
            return (source - FIRST_ATTRIBUTE) / ATTRIBUTES;
        }

        static int attributeOfSource(int source) {
            return (source - FIRST_ATTRIBUTE) % ATTRIBUTES;
        }

        boolean isComputedSource(int source) {
            return typeOfGenerator(generatorOfSource(source)).is(attributeOfSource(source), COMPUTED);
        }

        boolean isInUse(int type) {
            for (int i = 0; i < generatorCount; i++) {
                if (generators[i].type == type) return true;
            }
            for (int i = 0; i < resourceCount; i++) {
                if (resourceTypes[i] == type) return true;
            }
            return false;
        }

        boolean hasEntry(int resource) {
            for (int name = 0; name < NAMES; name++) {
                if (entries[name] != null && entries[name].resource == resource) return true;
            }
            return false;
        }

        int addGenerator(int type) {
            generators[generatorCount] = new Generator(type);
            generatorCount++;
            return generatorCount - 1;
        }

        int addResource(int type) {
            resourceTypes[resourceCount] = type;
            resourceCount++;
            return resourceCount - 1;
        }

        void importResource(int name, int resource) {
            Entry entry = new Entry(resource);
            for (int a = 0; a < ATTRIBUTES; a++) {
                if (!typeOf(name).is(a, WRITE_ONLY)) entry.values[a] = realValues[resource * ATTRIBUTES + a];
            }
            entries[name] = entry;
        }

        int takeComputedValue(int name) {
            int value = ((name + 7 * made[name]) % (GREATEST + 1)) << typeOf(name).upgrades;
            made[name]++;
            return value;
        }

        void upgradeType(int type) {
            Type kind = types[type];
            int first = kind.traits[0];
            kind.traits[0] = kind.traits[1];
            kind.traits[1] = first;
            kind.upgrades++;
            for (int i = 0; i < generatorCount; i++) turnSources(generators[i], type);
            for (int i = 0; i < resourceCount; i++) {
                if (resourceTypes[i] == type) Entry.turnRow(realValues, i * ATTRIBUTES);
            }
            for (int name = 0; name < names(); name++) {
                if (entries[name] != null && typeNumberOf(name) == type) entries[name].turn();
            }
            serial++;
        }

        private void turnSources(Generator maker, int type) {
            for (int a = 0; a < ATTRIBUTES; a++) maker.sources[a] = turnedSource(maker.sources[a], type);
            if (maker.type == type) {
                int first = maker.sources[0];
                maker.sources[0] = maker.sources[1];
                maker.sources[1] = first;
            }
        }

        private int turnedSource(int source, int type) {
            if (source < FIRST_ATTRIBUTE || attributeOfSource(source) > 1) return source;
            if (generators[generatorOfSource(source)].type != type) return source;
            return attributeOfSource(source) == 0 ? source + 1 : source - 1;
        }
    }

    /** A plan that was made. */
    private static final class Plan {
        final int team;
        int serial;
        final int[] actions;
        boolean isApproved, hasBegun;

        Plan(int team, int serial, int[] actions) {
            this.team = team;
            this.serial = serial;
            this.actions = actions;
        }
    }

    /** Compares what is wanted with the state; what it has found holds until something else changes. */
    private static final class Comparison {
        private static final int KEPT = 0, TO_MAKE = 1, TO_CHANGE = 2, TO_REPLACE = 3, TO_DESTROY = 4;

        /** What the sources give, three numbers for each name. */
        final int[] gives = new int[NAMES * ATTRIBUTES];
        final int[] actions = new int[ACTIONS];

        private final Values values;
        private final Estate estate;
        private final int[] needs = new int[NAMES];
        private int actionCount;
        /** The world beside: three values for each wanted name, -1 for what is not known yet. */
        private final int[] beside = new int[NAMES * ATTRIBUTES];

        Comparison(Values values, Estate estate) {
            this.values = values;
            this.estate = estate;
        }

        /** By rising names, as a name builds on lower ones alone. */
        void lookAtAll() {
            for (int name = 0; name < estate.names(); name++) lookAt(name);
        }

        private void lookAt(int name) {
            for (int a = 0; a < ATTRIBUTES; a++) gives[name * ATTRIBUTES + a] = sourceGives(name, a);
            needs[name] = findNeed(name);
        }

        private int sourceGives(int name, int attribute) {
            int source = estate.generatorOf(name).sources[attribute];
            if (source == NONE) return 0;
            if (source < FIRST_ATTRIBUTE) return fieldGives(name, source);
            int other = KEYS * Estate.generatorOfSource(source) + name % KEYS;
            Entry entry = estate.entries[other];
            if (entry == null || needs[other] == TO_REPLACE || needs[other] == TO_DESTROY) return NONE;
            return converted(entry.values[Estate.attributeOfSource(source)], other, name);
        }

        private int fieldGives(int name, int field) {
            int value = values.found[field];
            return value < 0 ? NONE : value << estate.typeOf(name).upgrades;
        }

        /** Takes off the doublings of the one name's type and puts on those of the other one's. */
        private int converted(int value, int from, int to) {
            return value >> estate.typeOf(from).upgrades << estate.typeOf(to).upgrades;
        }

        private int findNeed(int name) {
            Entry entry = estate.entries[name];
            boolean isWanted = estate.hasKey(name);
            if (entry == null) return isWanted ? TO_MAKE : KEPT;
            if (!isWanted) return TO_DESTROY;
            if (entry.isTainted) return TO_REPLACE;
            int need = KEPT;
            for (int a = 0; a < ATTRIBUTES; a++) {
                if (!isDiffering(name, a, gives[name * ATTRIBUTES + a])) continue;
                if (estate.typeOf(name).is(a, FORCES)) return TO_REPLACE;
                need = TO_CHANGE;
            }
            return need;
        }

        /** Whether the entry of a name differs from what a source gives; it always does from nothing (-1). */
        boolean isDiffering(int name, int attribute, int given) {
            Entry entry = estate.entries[name];
            if (entry == null || estate.typeOf(name).is(attribute, COMPUTED)) return false;
            return entry.values[attribute] != given && !entry.isAdoptedOn(attribute, given);
        }

        private boolean canPlan() {
            if (values.hasConflict || values.book.hasFault()) return false;
            for (int i = 0; i < estate.generatorCount; i++) {
                for (int a = 0; a < ATTRIBUTES; a++) {
                    if (estate.generators[i].keyCount > 0 && !canPlanSource(i, a)) return false;
                }
            }
            return true;
        }

        private boolean canPlanSource(int generator, int attribute) {
            Generator maker = estate.generators[generator];
            int source = maker.sources[attribute];
            if (source == NONE) return true;
            if (source >= FIRST_ATTRIBUTE) {
                return estate.generators[Estate.generatorOfSource(source)].hasKeysOf(maker);
            }
            if (values.found[source] < 0) return false;
            return !values.isTainted(source) || estate.types[maker.type].is(attribute, WRITE_ONLY);
        }

        /** Returns how many actions a plan would have, -1 if there can be none. */
        int listActions() {
            actionCount = NONE;
            if (!canPlan()) return NONE;
            lookAtAll();
            actionCount = 0;
            for (int name = 0; name < estate.names(); name++) addMaking(name);
            for (int name = estate.names() - 1; name >= 0; name--) addEnding(name);
            return actionCount;
        }

        private void addMaking(int name) {
            if (needs[name] == TO_MAKE) addAction(MAKE, name);
            if (needs[name] == TO_CHANGE) addAction(CHANGE, name);
            if (needs[name] == TO_REPLACE) {
                if (!estate.typeOf(name).isMadeFirst) addAction(DESTROY, name);
                addAction(MAKE, name);
            }
        }

        private void addEnding(int name) {
            if (needs[name] == TO_DESTROY) addAction(DESTROY, name);
            if (needs[name] == TO_REPLACE && estate.typeOf(name).isMadeFirst) addAction(RETIRE, name);
        }

        private void addAction(int what, int name) {
            if (actionCount < ACTIONS) {
                actions[actionCount] = 100 * what + name;
                actionCount++;
            }
        }

        /** Whether the actions listed last have all of these; not if there can be no plan. */
        boolean hasAllOf(int[] others) {
            for (int i = 0; i < others.length; i++) {
                if (!hasAction(others[i])) return false;
            }
            return actionCount != NONE;
        }

        private boolean hasAction(int action) {
            for (int i = 0; i < actionCount; i++) {
                if (actions[i] == action) return true;
            }
            return false;
        }

        int countDiffering() {
            if (!canPlan()) return NONE;
            int count = 0;
            for (int name = 0; name < estate.names(); name++) {
                boolean hasEntry = estate.entries[name] != null;
                if (estate.hasKey(name) ? !isMadeAlike(name) : hasEntry) count++;
            }
            return count;
        }

        /** Makes the resource in the world beside, and returns whether it is as the entry has it. */
        private boolean isMadeAlike(int name) {
            Entry entry = estate.entries[name];
            boolean isNew = entry == null || entry.isTainted, isAlike = !isNew;
            for (int a = 0; a < ATTRIBUTES; a++) {
                int made = valueBeside(name, a);
                beside[name * ATTRIBUTES + a] = made;
                if (isDiffering(name, a, made)) {
                    isAlike = false;
                    isNew |= estate.typeOf(name).is(a, FORCES);
                }
            }
            if (isNew) forgetComputed(name);
            return isAlike;
        }

        private int valueBeside(int name, int attribute) {
            if (estate.typeOf(name).is(attribute, COMPUTED)) {
                Entry entry = estate.entries[name];
                return entry == null ? NONE : entry.values[attribute];
            }
            int source = estate.generatorOf(name).sources[attribute];
            if (source == NONE) return 0;
            if (source < FIRST_ATTRIBUTE) return fieldGives(name, source);
            int other = KEYS * Estate.generatorOfSource(source) + name % KEYS;
            int found = beside[other * ATTRIBUTES + Estate.attributeOfSource(source)];
            return found == NONE ? NONE : converted(found, other, name);
        }

        /** What is computed is known only when another resource has been made. */
        private void forgetComputed(int name) {
            for (int a = 0; a < ATTRIBUTES; a++) {
                if (estate.typeOf(name).is(a, COMPUTED)) beside[name * ATTRIBUTES + a] = NONE;
            }
        }

        /** By rising names: what a source gives is asked of entries that are read already. */
        int readWorld() {
            int dropped = 0, drifts = 0;
            for (int name = 0; name < estate.names(); name++) {
                Entry entry = estate.entries[name];
                lookAt(name);
                if (entry == null) continue;
                if (estate.isGone[entry.resource]) {
                    estate.entries[name] = null;
                    dropped++;
                } else {
                    drifts += followDrift(name, entry);
                }
                lookAt(name);
            }
            if (dropped + drifts > 0) estate.serial++;
            return 100 * dropped + drifts;
        }

        private int followDrift(int name, Entry entry) {
            Type kind = estate.typeOf(name);
            boolean canAdopt = kind.adopts && estate.hasKey(name);
            int drifts = 0;
            for (int a = 0; a < ATTRIBUTES; a++) {
                int found = estate.realValues[entry.resource * ATTRIBUTES + a];
                if (kind.is(a, WRITE_ONLY) || found == entry.values[a]) continue;
                entry.follow(a, found, canAdopt ? gives[name * ATTRIBUTES + a] : NONE);
                drifts++;
            }
            return drifts;
        }
    }

    /** The apply that is on, and the lock of the state. */
    private static final class Applying {
        boolean isStateLocked;

        private final Estate estate;
        private final Comparison comparison;
        private Plan plan;
        private int next, lastDay;
        /** The names that have failed or were left out. */
        private final boolean[] isStopped = new boolean[NAMES];
        /** The resources that names had before others were made for them. */
        private final int[] oldResources = new int[NAMES];

        Applying(Estate estate, Comparison comparison) {
            this.estate = estate;
            this.comparison = comparison;
        }

        boolean isOn() {
            return plan != null;
        }

        void begin(Plan chosen, int today) {
            chosen.hasBegun = true;
            plan = chosen;
            next = 0;
            isStateLocked = true;
            lastDay = today + LOCK_DAYS;
            Arrays.fill(oldResources, NONE);
            for (int name = 0; name < NAMES; name++) isStopped[name] = false;
        }

        void dayComes(int today) {
            if (today >= lastDay) end();
        }

        private void end() {
            plan = null;
            isStateLocked = false;
        }

        int doNext(int how) {
            int action = plan.actions[next], what = action / 100, name = action % 100;
            comparison.lookAtAll();
            boolean isAble = isAble(what, name);
            if (isAble && (how != FAILING || what == MAKE)) {
                act(what, name, how);
                if (how != DYING) estate.serial++;
            }
            if (!isAble || how == FAILING) isStopped[name] = true;
            if (how == DYING) plan = null;
            else goOn();
            return action;
        }

        /** Whether it does not fail by itself. */
        private boolean isAble(int what, int name) {
            if (what == MAKE && estate.resourceCount >= RESOURCES) return false;
            if (what == DESTROY || what == RETIRE) return true;
            for (int a = 0; a < ATTRIBUTES; a++) {
                if (comparison.gives[name * ATTRIBUTES + a] == NONE) return false;
            }
            return true;
        }

        private void act(int what, int name, int how) {
            if (what == MAKE) makeResource(name, how);
            if (what == CHANGE) writeDifferences(name, how);
            if (what == DESTROY) endResource(name, how);
            if (what == RETIRE && oldResources[name] != NONE) estate.isGone[oldResources[name]] = true;
        }

        private void makeResource(int name, int how) {
            Type kind = estate.typeOf(name);
            int resource = estate.addResource(estate.typeNumberOf(name));
            int computed = estate.takeComputedValue(name);
            Entry entry = new Entry(resource);
            entry.isTainted = how == FAILING;
            for (int a = 0; a < ATTRIBUTES; a++) {
                int at = name * ATTRIBUTES + a;
                entry.values[a] = kind.is(a, COMPUTED) ? computed : comparison.gives[at];
                estate.realValues[resource * ATTRIBUTES + a] = entry.values[a];
            }
            if (how == DYING) return;
            if (estate.entries[name] != null) oldResources[name] = estate.entries[name].resource;
            estate.entries[name] = entry;
        }

        private void writeDifferences(int name, int how) {
            Entry entry = estate.entries[name];
            if (entry == null) return;
            for (int a = 0; a < ATTRIBUTES; a++) {
                int value = comparison.gives[name * ATTRIBUTES + a];
                if (!comparison.isDiffering(name, a, value)) continue;
                estate.realValues[entry.resource * ATTRIBUTES + a] = value;
                if (how != DYING) entry.write(a, value);
            }
        }

        private void endResource(int name, int how) {
            Entry entry = estate.entries[name];
            if (entry == null) return;
            estate.isGone[entry.resource] = true;
            if (how != DYING) estate.entries[name] = null;
        }

        private void goOn() {
            next++;
            while (next < plan.actions.length && isLeftOut(plan.actions[next] % 100)) {
                isStopped[plan.actions[next] % 100] = true;
                next++;
            }
            if (next >= plan.actions.length) end();
        }

        private boolean isLeftOut(int name) {
            if (isStopped[name]) return true;
            Generator maker = estate.generatorOf(name);
            for (int a = 0; a < ATTRIBUTES; a++) {
                int source = maker.sources[a];
                if (source >= FIRST_ATTRIBUTE
                        && isStopped[KEYS * Estate.generatorOfSource(source) + name % KEYS]) {
                    return true;
                }
            }
            return false;
        }
    }
}

import java.util.ArrayList;
import java.util.Arrays;
import java.util.Collections;
import java.util.HashMap;
import java.util.HashSet;
import java.util.List;
import java.util.Map;
import java.util.Set;
import java.util.TreeMap;
import java.util.TreeSet;

/**
 * The document once more, written as slowly and plainly as it goes, to be compared with the
 * program call by call. Sets are sets, and what can be found again is kept only for speed,
 * until a call tells of statements, locks or days (forget).
 */
final class Model {
    private static final int MAKE = 1, CHANGE = 2, DESTROY = 3, RETIRE = 4;

    private static final class Told {
        int number, kind, f, a, b;
        boolean isRemoved;
    }

    /** A file, or a draft or a version of a package. */
    private static final class Part {
        int file = -1, pack = -1;
        final List<Told> rows = new ArrayList<>();
    }

    private static final class Resource {
        int type;
        int[] values = new int[3];
        boolean isGone;
    }

    private static final class Entry {
        int resource;
        int[] values = new int[3];
        boolean isTainted;
        /** What the source gave; nothing for what is not adopted. */
        Integer[] adopted = new Integer[3];
    }

    private static final class Kind {
        int[] traits = new int[3];
        boolean isMadeFirst, adopts;
        int upgrades;
    }

    private static final class Maker {
        int type;
        List<Integer> row = new ArrayList<>();
        int[] sources = {-1, -1, -1};
    }

    private static final class Plan {
        int team, serial;
        List<Integer> actions;
        boolean isApproved, hasBegun;
    }

    private final List<Told> statements = new ArrayList<>();
    private final Part[] files = new Part[6], drafts = new Part[3];
    private final List<List<Part>> versions = new ArrayList<>();
    private final int[] layers = new int[6], locks = new int[10];
    private final Map<Integer, Integer> lapses = new HashMap<>();
    private int today;
    private final List<int[]> policies = new ArrayList<>();
    private final Kind[] kinds = {new Kind(), new Kind(), new Kind()};
    private final List<Maker> makers = new ArrayList<>();
    private final List<Resource> world = new ArrayList<>();
    private final TreeMap<Integer, Entry> state = new TreeMap<>();
    private final Map<Integer, Integer> made = new HashMap<>();
    private int serial;
    private final List<Plan> plans = new ArrayList<>();
    private Plan applied;
    private int at, began;
    private boolean isLocked;
    private final Set<Integer> stopped = new HashSet<>();
    private final Map<Integer, Integer> retiring = new HashMap<>();
    private List<Part> keptParts;
    private List<Row> keptSound;
    private List<TreeSet<Integer>> keptBare;
    private int[] keptValues;
    private Set<Integer> keptTainted;
    private Boolean keptIsAnyAtFault;

    Model() {
        for (int i = 0; i < 6; i++) {
            files[i] = new Part();
            files[i].file = i;
        }
        for (int i = 0; i < 3; i++) {
            drafts[i] = newDraft(i);
            versions.add(new ArrayList<>());
        }
        Arrays.fill(locks, -1);
    }

    private static Part newDraft(int pack) {
        Part part = new Part();
        part.pack = pack;
        return part;
    }

    private static void index(boolean isThere) {
        if (!isThere) throw new IndexOutOfBoundsException();
    }

    private static void argument(boolean isInRange) {
        if (!isInRange) throw new IllegalArgumentException();
    }

    private static void state(boolean isPossible) {
        if (!isPossible) throw new IllegalStateException();
    }

    private static boolean from0(int number, int end) {
        return 0 <= number && number < end;
    }

    private void forget() {
        keptParts = null;
        keptSound = null;
        keptBare = null;
        keptValues = null;
        keptTainted = null;
        keptIsAnyAtFault = null;
    }

    // ---- statements

    int tell(int file, int kind, int field, int a, int b) {
        index(from0(file, 6));
        return add(files[file], kind, field, a, b);
    }

    int draft(int of, int kind, int field, int a, int b) {
        index(from0(of, 3));
        return add(drafts[of], kind, field, a, b);
    }

    private int add(Part part, int kind, int f, int a, int b) {
        index(from0(f, kind == 12 ? 3 : 10));
        if (kind == 5 || kind == 6) index(from0(a, 10));
        argument(from0(kind, 13));
        if (kind == 12) argument(1 <= a && a <= 3);
        else if (kind >= 8) argument(a == 0);
        else argument(from0(a, 64));
        if (kind == 1) argument(a <= b && b <= 63);
        else if (kind == 2) argument(from0(b, 64));
        else if (kind == 5) argument(-63 <= b && b <= 63);
        else argument(b == 0);
        state(statements.size() < 30);
        Told told = new Told();
        told.number = statements.size();
        told.kind = kind;
        told.f = f;
        told.a = a;
        told.b = b;
        statements.add(told);
        part.rows.add(told);
        forget();
        return told.number;
    }

    int publish(int of) {
        index(from0(of, 3));
        state(versions.get(of).size() < 3);
        versions.get(of).add(drafts[of]);
        drafts[of] = newDraft(of);
        forget();
        return versions.get(of).size();
    }

    int remove(int statement) {
        index(from0(statement, statements.size()));
        Told told = statements.get(statement);
        boolean isOfFile = false;
        for (Part file : files) isOfFile |= file.rows.contains(told);
        index(isOfFile && !told.isRemoved);
        told.isRemoved = true;
        forget();
        int count = 0;
        for (Part part : parts()) count += rows(part).size();
        return count;
    }

    int setLayer(int file, int layer) {
        index(from0(file, 6) && from0(layer, 4));
        int before = layers[file];
        layers[file] = layer;
        forget();
        return before;
    }

    int lock(int field, int layer) {
        index(from0(field, 10) && from0(layer + 1, 5));
        int before = locks[field];
        locks[field] = layer;
        forget();
        return before;
    }

    int except(int file, int field, int days) {
        index(from0(file, 6) && from0(field, 10));
        argument(1 <= days && days <= 30);
        lapses.put(100 * file + field, today + days);
        forget();
        return today + days;
    }

    int pass(int days) {
        argument(1 <= days && days <= 30);
        today += days;
        forget();
        if (isLocked && today >= began + 3) {
            isLocked = false;
            applied = null;
        }
        return today;
    }

    /** The files and the greatest versions that are wanted. */
    private List<Part> parts() {
        if (keptParts == null) keptParts = findParts();
        return keptParts;
    }

    private List<Part> findParts() {
        Set<Part> wanted = new HashSet<>(Arrays.asList(files));
        for (int before = 0; before < wanted.size(); ) {
            before = wanted.size();
            for (Part part : new ArrayList<>(wanted)) {
                for (Told told : rows(part)) {
                    if (told.kind != 12) continue;
                    List<Part> published = versions.get(told.f);
                    if (!published.isEmpty()) wanted.add(published.get(Math.min(told.a, published.size()) - 1));
                }
            }
        }
        List<Part> chosen = new ArrayList<>(Arrays.asList(files));
        for (List<Part> published : versions) {
            Part last = null;
            for (Part version : published) if (wanted.contains(version)) last = version;
            if (last != null) chosen.add(last);
        }
        return chosen;
    }

    private static List<Told> rows(Part part) {
        List<Told> rows = new ArrayList<>();
        for (Told told : part.rows) if (!told.isRemoved) rows.add(told);
        return rows;
    }

    private Part partOf(Told told) {
        for (Part part : parts()) if (rows(part).contains(told)) return part;
        return null;
    }

    private static Told guardOf(Part part, Told told) {
        List<Told> rows = rows(part);
        int place = rows.indexOf(told);
        return told.kind <= 6 && place > 0 && rows.get(place - 1).kind == 7 ? rows.get(place - 1) : null;
    }

    private static Set<Integer> fieldsOf(Told told) {
        Set<Integer> fields = new TreeSet<>();
        fields.add(told.f);
        if (told.kind == 5 || told.kind == 6) fields.add(told.a);
        return fields;
    }

    private int faultOf(Part part, Told told) {
        if (told.kind > 6) return 0;
        Set<Integer> listed = new HashSet<>(), hidden = new HashSet<>();
        boolean isClosed = false;
        for (Part other : parts()) {
            for (Told row : rows(other)) {
                isClosed |= row.kind == 9;
                if (row.kind == 8) listed.add(row.f);
                if (row.kind == 10 && other != part) hidden.add(row.f);
            }
        }
        if (isClosed && !listed.containsAll(fieldsOf(told))) return 1;
        if (!Collections.disjoint(hidden, fieldsOf(told))) return 2;
        int layer = locks[told.f];
        if (layer == -1 || told.kind == 4) return 0;
        if (part.file == -1) return 3;
        boolean isExcepted = lapses.getOrDefault(100 * part.file + told.f, 0) > today;
        return layers[part.file] == layer || isExcepted ? 0 : 3;
    }

    // ---- values

    private static final class Row {
        Told told, guard;
        Part part;
    }

    /** The statements of the kinds 0 to 6 that are not at fault. */
    private List<Row> sound() {
        if (keptSound == null) keptSound = findSound();
        return keptSound;
    }

    private List<Row> findSound() {
        List<Row> found = new ArrayList<>();
        for (Part part : parts()) {
            for (Told told : rows(part)) {
                if (told.kind > 6 || faultOf(part, told) != 0) continue;
                Row row = new Row();
                row.told = told;
                row.part = part;
                row.guard = guardOf(part, told);
                found.add(row);
            }
        }
        return found;
    }

    private static List<TreeSet<Integer>> allValues() {
        List<TreeSet<Integer>> sets = new ArrayList<>();
        for (int f = 0; f < 10; f++) {
            sets.add(new TreeSet<>());
            for (int v = 0; v <= 63; v++) sets.get(f).add(v);
        }
        return sets;
    }

    private static boolean counts(Row row, List<TreeSet<Integer>> sets) {
        return row.guard == null || Set.of(row.guard.a).containsAll(sets.get(row.guard.f));
    }

    private static boolean keep(Set<Integer> set, Set<Integer> kept) {
        return set.retainAll(new HashSet<>(kept));
    }

    private static Set<Integer> moved(Set<Integer> set, int by) {
        Set<Integer> result = new HashSet<>();
        for (int v : set) result.add(v + by);
        return result;
    }

    private static boolean narrow(Told told, List<TreeSet<Integer>> sets) {
        TreeSet<Integer> set = sets.get(told.f);
        switch (told.kind) {
            case 0: return keep(set, Set.of(told.a));
            case 1: return set.removeIf(v -> v < told.a || v > told.b);
            case 2: return set.removeIf(v -> v != told.a && v != told.b);
            case 3: return set.remove(told.a);
            case 5: {
                TreeSet<Integer> other = sets.get(told.a);
                boolean changes = keep(set, moved(other, told.b));
                return keep(other, moved(set, -told.b)) || changes;
            }
            case 6: {
                TreeSet<Integer> other = sets.get(told.a);
                int top = other.isEmpty() ? -1 : other.last();
                boolean changes = set.removeIf(v -> v >= top);
                int low = set.isEmpty() ? 64 : set.first();
                return other.removeIf(v -> v <= low) || changes;
            }
            default: return false;
        }
    }

    private static void narrowAll(List<Row> rows, List<TreeSet<Integer>> sets) {
        boolean changes = true;
        while (changes) {
            changes = false;
            for (Row row : rows) changes |= counts(row, sets) && narrow(row.told, sets);
        }
    }

    private List<TreeSet<Integer>> bare() {
        if (keptBare == null) {
            keptBare = allValues();
            narrowAll(sound(), keptBare);
        }
        return keptBare;
    }

    private static boolean hasEmpty(List<TreeSet<Integer>> sets) {
        for (TreeSet<Integer> set : sets) if (set.isEmpty()) return true;
        return false;
    }

    private int[] values() {
        if (keptValues == null) keptValues = findValues();
        return keptValues;
    }

    private int[] findValues() {
        int[] values = new int[10];
        List<Row> rows = sound();
        List<TreeSet<Integer>> sets = bare();
        Arrays.fill(values, -2);
        if (hasEmpty(sets)) return values;
        for (int f = 0; f < 10; f++) {
            if (sets.get(f).size() < 2) continue;
            int top = -2;
            for (Row row : rows) if (isDefault(row, f, sets)) top = Math.max(top, layerOf(row));
            Set<Integer> told = new HashSet<>();
            for (Row row : rows) if (isDefault(row, f, sets) && layerOf(row) == top) told.add(row.told.a);
            told.retainAll(sets.get(f));
            if (told.size() != 1) continue;
            List<TreeSet<Integer>> tried = new ArrayList<>();
            for (TreeSet<Integer> set : sets) tried.add(new TreeSet<>(set));
            tried.get(f).retainAll(told);
            narrowAll(rows, tried);
            if (!hasEmpty(tried)) sets = tried;
        }
        for (int f = 0; f < 10; f++) values[f] = sets.get(f).size() == 1 ? sets.get(f).first() : -1;
        return values;
    }

    private static boolean isDefault(Row row, int f, List<TreeSet<Integer>> sets) {
        return row.told.kind == 4 && row.told.f == f && counts(row, sets);
    }

    private int layerOf(Row row) {
        return row.part.file == -1 ? -1 : layers[row.part.file];
    }

    int standing(int statement) {
        index(from0(statement, statements.size()));
        Told told = statements.get(statement);
        Part part = partOf(told);
        if (part == null) return -1;
        int fault = faultOf(part, told);
        if (fault != 0) return fault;
        for (Row row : sound()) if (row.told == told && !counts(row, bare())) return 10;
        return 0;
    }

    int value(int field) {
        index(from0(field, 10));
        return values()[field];
    }

    int set(int field) {
        index(from0(field, 10));
        return summary(bare().get(field));
    }

    private static int summary(TreeSet<Integer> set) {
        return set.isEmpty() ? 0 : 10000 * set.size() + 100 * set.first() + set.last();
    }

    int setAnew(int field) {
        index(from0(field, 10));
        List<Row> rows = new ArrayList<>(sound());
        rows.sort((one, other) -> other.told.number - one.told.number);
        List<TreeSet<Integer>> sets = allValues();
        boolean changes = true;
        while (changes) {
            changes = false;
            for (Row row : rows) {
                while (counts(row, sets) && narrow(row.told, sets)) changes = true;
            }
        }
        return summary(sets.get(field));
    }

    int conflict() {
        List<TreeSet<Integer>> sets = bare();
        if (!hasEmpty(sets)) return 0;
        List<Told> rows = new ArrayList<>();
        for (Row row : sound()) if (counts(row, sets)) rows.add(row.told);
        rows.sort((one, other) -> one.number - other.number);
        for (int size = 1; size <= 3; size++) {
            int best = leastOf(rows, size, 0, new ArrayList<>());
            if (best != Integer.MAX_VALUE) return best;
        }
        return -1;
    }

    private int leastOf(List<Told> rows, int size, int start, List<Told> chosen) {
        if (chosen.size() == size) {
            List<TreeSet<Integer>> sets = allValues();
            boolean changes = true;
            while (changes) {
                changes = false;
                for (Told told : chosen) changes |= narrow(told, sets);
            }
            int bits = 0;
            for (Told told : chosen) bits |= 1 << told.number;
            return hasEmpty(sets) ? bits : Integer.MAX_VALUE;
        }
        int best = Integer.MAX_VALUE;
        for (int i = start; i < rows.size(); i++) {
            chosen.add(rows.get(i));
            best = Math.min(best, leastOf(rows, size, i + 1, chosen));
            chosen.remove(chosen.size() - 1);
        }
        return best;
    }

    int policy(int field, int from, int to) {
        index(from0(field, 10));
        argument(from0(from, 64) && from <= to && to <= 63);
        state(policies.size() < 8);
        policies.add(new int[] {field, from, to});
        return policies.size() - 1;
    }

    int proof(int policy) {
        index(from0(policy, policies.size()));
        int[] told = policies.get(policy);
        TreeSet<Integer> set = bare().get(told[0]);
        if (set.isEmpty()) return -2;
        for (int v : set) if (v < told[1] || v > told[2]) return v;
        return -1;
    }

    private Set<Integer> taintedFields() {
        if (keptTainted == null) keptTainted = findTainted();
        return keptTainted;
    }

    private Set<Integer> findTainted() {
        Set<Integer> tainted = new HashSet<>();
        for (Part part : parts()) for (Told told : rows(part)) if (told.kind == 11) tainted.add(told.f);
        List<TreeSet<Integer>> sets = bare();
        List<Row> rows = sound();
        for (int before = -1; before < tainted.size(); ) {
            before = tainted.size();
            for (Row row : rows) {
                Set<Integer> fields = fieldsOf(row.told);
                boolean isJoined = fields.size() > 1 && counts(row, sets) && !Collections.disjoint(fields, tainted);
                if (isJoined || row.guard != null && tainted.contains(row.guard.f)) tainted.addAll(fields);
            }
        }
        return tainted;
    }

    int tainted() {
        int bits = 0;
        for (int f : taintedFields()) bits |= 1 << f;
        return bits;
    }

    // ---- types and generators

    void setType(int type, int first, int second, int third, boolean isMadeFirst, boolean adopts) {
        index(from0(type, 3));
        argument(from0(first, 8) && from0(second, 8) && from0(third, 8));
        for (Maker maker : makers) state(maker.type != type);
        for (Resource resource : world) state(resource.type != type);
        kinds[type].traits = new int[] {first, second, third};
        kinds[type].isMadeFirst = isMadeFirst;
        kinds[type].adopts = adopts;
    }

    int generator(int type) {
        index(from0(type, 3));
        state(makers.size() < 4);
        Maker maker = new Maker();
        maker.type = type;
        makers.add(maker);
        return makers.size() - 1;
    }

    int key(int generator, int place, int key) {
        index(from0(generator, makers.size()));
        List<Integer> row = makers.get(generator).row;
        index(from0(place, row.size() + 1));
        argument(from0(key, 16));
        state(!row.contains(key) && row.size() < 8);
        row.add(place, key);
        return row.size();
    }

    int unkey(int generator, int place) {
        index(from0(generator, makers.size()));
        List<Integer> row = makers.get(generator).row;
        index(from0(place, row.size()));
        return row.remove(place);
    }

    int bind(int generator, int attribute, int source) {
        index(from0(generator, makers.size()) && from0(attribute, 3) && -1 <= source && source < 10 + 3 * generator);
        Maker maker = makers.get(generator);
        state(!has(maker.type, attribute, 2));
        if (source >= 10) state(has(makers.get((source - 10) / 3).type, (source - 10) % 3, 2));
        int before = maker.sources[attribute];
        maker.sources[attribute] = source;
        return before;
    }

    private boolean has(int type, int attribute, int trait) {
        return (kinds[type].traits[attribute] & trait) != 0;
    }

    int upgrade(int type) {
        index(from0(type, 3));
        state(kinds[type].upgrades < 2 && !isLocked);
        kinds[type].upgrades++;
        kinds[type].traits = swapped(kinds[type].traits, 1);
        for (Maker maker : makers) {
            for (int a = 0; a < 3; a++) {
                int source = maker.sources[a];
                if (source < 10 || makers.get((source - 10) / 3).type != type) continue;
                if ((source - 10) % 3 == 0) maker.sources[a] = source + 1;
                if ((source - 10) % 3 == 1) maker.sources[a] = source - 1;
            }
        }
        for (Maker maker : makers) if (maker.type == type) maker.sources = swapped(maker.sources, 1);
        for (Resource resource : world) if (resource.type == type) resource.values = swapped(resource.values, 2);
        for (int name : state.keySet()) {
            if (typeOf(name) != type) continue;
            Entry entry = state.get(name);
            entry.values = swapped(entry.values, 2);
            Integer[] bases = {entry.adopted[1], entry.adopted[0], entry.adopted[2]};
            for (int a = 0; a < 3; a++) if (bases[a] != null) bases[a] *= 2;
            entry.adopted = bases;
        }
        serial++;
        return kinds[type].upgrades;
    }

    private static int[] swapped(int[] row, int factor) {
        return new int[] {row[1] * factor, row[0] * factor, row[2] * factor};
    }

    private int names() {
        return 16 * makers.size();
    }

    private int typeOf(int name) {
        return makers.get(name / 16).type;
    }

    private int doublings(int name) {
        return 1 << kinds[typeOf(name)].upgrades;
    }

    private boolean isWanted(int name) {
        return makers.get(name / 16).row.contains(name % 16);
    }

    int given(int name, int attribute) {
        index(from0(name, names()) && from0(attribute, 3));
        return gives(values(), name, attribute);
    }

    private int gives(int[] values, int name, int attribute) {
        int source = makers.get(name / 16).sources[attribute];
        if (source == -1) return 0;
        if (source < 10) return values[source] < 0 ? -1 : values[source] * doublings(name);
        int other = 16 * ((source - 10) / 3) + name % 16;
        if (!state.containsKey(other) || !isWanted(other) || isReplaced(values, other)) return -1;
        return state.get(other).values[(source - 10) % 3] / doublings(other) * doublings(name);
    }

    private boolean differs(int[] values, int name, int attribute) {
        Entry entry = state.get(name);
        if (has(typeOf(name), attribute, 2)) return false;
        int given = gives(values, name, attribute);
        if (given == -1) return true;
        return entry.values[attribute] != given && (entry.adopted[attribute] == null || entry.adopted[attribute] != given);
    }

    private boolean isReplaced(int[] values, int name) {
        if (state.get(name).isTainted) return true;
        for (int a = 0; a < 3; a++) if (has(typeOf(name), a, 1) && differs(values, name, a)) return true;
        return false;
    }

    private boolean isChanged(int[] values, int name) {
        for (int a = 0; a < 3; a++) if (differs(values, name, a)) return true;
        return false;
    }

    // ---- plans

    private boolean isAnyAtFault() {
        if (keptIsAnyAtFault == null) {
            keptIsAnyAtFault = false;
            for (Part part : parts()) for (Told told : rows(part)) if (faultOf(part, told) != 0) keptIsAnyAtFault = true;
        }
        return keptIsAnyAtFault;
    }

    private boolean canPlan() {
        List<TreeSet<Integer>> sets = bare();
        if (hasEmpty(sets)) return false;
        if (isAnyAtFault()) return false;
        int[] values = values();
        Set<Integer> tainted = taintedFields();
        for (Maker maker : makers) {
            if (maker.row.isEmpty()) continue;
            for (int a = 0; a < 3; a++) {
                int source = maker.sources[a];
                if (source >= 10 && !makers.get((source - 10) / 3).row.containsAll(maker.row)) return false;
                if (source < 0 || source >= 10) continue;
                if (values[source] < 0 || tainted.contains(source) && !has(maker.type, a, 4)) return false;
            }
        }
        return true;
    }

    /** The actions of a plan that is made now, null if there can be none. */
    private List<Integer> actions() {
        if (!canPlan()) return null;
        int[] values = values();
        List<Integer> first = new ArrayList<>(), last = new ArrayList<>();
        for (int name = 0; name < names(); name++) {
            boolean hasEntry = state.containsKey(name);
            if (!hasEntry && isWanted(name)) first.add(100 * MAKE + name);
            if (hasEntry && !isWanted(name)) last.add(0, 100 * DESTROY + name);
            if (!hasEntry || !isWanted(name)) continue;
            boolean isMadeFirst = kinds[typeOf(name)].isMadeFirst;
            if (isReplaced(values, name)) {
                if (!isMadeFirst) first.add(100 * DESTROY + name);
                first.add(100 * MAKE + name);
                if (isMadeFirst) last.add(0, 100 * RETIRE + name);
            } else if (isChanged(values, name)) {
                first.add(100 * CHANGE + name);
            }
        }
        first.addAll(last);
        return first;
    }

    int pending() {
        List<Integer> actions = actions();
        return actions == null ? -1 : actions.size();
    }

    int differing() {
        List<Integer> actions = actions();
        if (actions == null) return -1;
        Set<Integer> names = new HashSet<>();
        for (int action : actions) names.add(action % 100);
        return names.size();
    }

    int plan(int team) {
        index(from0(team, 3));
        List<Integer> actions = actions();
        state(actions != null && plans.size() < 40);
        Plan plan = new Plan();
        plan.team = team;
        plan.serial = serial;
        plan.actions = actions;
        plans.add(plan);
        return plans.size() - 1;
    }

    int action(int plan, int index) {
        index(from0(plan, plans.size()));
        index(from0(index, plans.get(plan).actions.size()));
        return plans.get(plan).actions.get(index);
    }

    boolean approve(int plan, int team) {
        index(from0(plan, plans.size()) && from0(team, 3));
        state(plans.get(plan).team != team);
        boolean was = plans.get(plan).isApproved;
        plans.get(plan).isApproved = true;
        return !was;
    }

    private boolean holds(Plan plan) {
        List<Integer> actions = actions();
        return actions != null && actions.containsAll(plan.actions);
    }

    boolean isStale(int plan) {
        index(from0(plan, plans.size()));
        return plans.get(plan).serial != serial || !holds(plans.get(plan));
    }

    boolean rebase(int plan) {
        index(from0(plan, plans.size()));
        state(!plans.get(plan).hasBegun);
        if (!holds(plans.get(plan))) return false;
        plans.get(plan).serial = serial;
        return true;
    }

    // ---- applying

    int apply(int plan) {
        index(from0(plan, plans.size()));
        Plan chosen = plans.get(plan);
        state(chosen.isApproved && !chosen.hasBegun && !chosen.actions.isEmpty() && !isLocked);
        state(!isStale(plan));
        chosen.hasBegun = true;
        applied = chosen;
        at = 0;
        began = today;
        isLocked = true;
        stopped.clear();
        retiring.clear();
        return chosen.actions.size();
    }

    int step(int how) {
        argument(from0(how, 3));
        state(applied != null);
        int action = applied.actions.get(at), what = action / 100, name = action % 100;
        int[] gives = new int[3];
        int[] values = values();
        for (int a = 0; a < 3; a++) gives[a] = gives(values, name, a);
        boolean failsByItself = what == MAKE && world.size() == 60;
        for (int given : gives) failsByItself |= (what == MAKE || what == CHANGE) && given == -1;
        boolean fails = how == 1 || failsByItself;
        if (!failsByItself && (!fails || what == MAKE)) {
            act(what, name, gives, values, how);
            if (how != 2) serial++;
        }
        if (fails) stopped.add(name);
        if (how == 2) applied = null;
        else next();
        return action;
    }

    private void act(int what, int name, int[] gives, int[] values, int how) {
        Entry entry = state.get(name);
        boolean isWritten = how != 2;
        if (what == MAKE) {
            Entry fresh = makeFor(name, gives);
            fresh.isTainted = how == 1;
            if (isWritten && entry != null) retiring.put(name, entry.resource);
            if (isWritten) state.put(name, fresh);
        } else if (what == RETIRE) {
            world.get(retiring.get(name)).isGone = true;
        } else if (what == DESTROY) {
            world.get(entry.resource).isGone = true;
            if (isWritten) state.remove(name);
        } else {
            boolean[] differs = new boolean[3];
            for (int a = 0; a < 3; a++) differs[a] = differs(values, name, a);
            for (int a = 0; a < 3; a++) {
                if (!differs[a]) continue;
                world.get(entry.resource).values[a] = gives[a];
                if (isWritten) {
                    entry.values[a] = gives[a];
                    entry.adopted[a] = null;
                }
            }
        }
    }

    private Entry makeFor(int name, int[] gives) {
        Resource resource = new Resource();
        resource.type = typeOf(name);
        int before = made.getOrDefault(name, 0);
        made.put(name, before + 1);
        for (int a = 0; a < 3; a++) {
            boolean isComputed = has(typeOf(name), a, 2);
            resource.values[a] = isComputed ? (name + 7 * before) % 64 * doublings(name) : gives[a];
        }
        world.add(resource);
        Entry entry = new Entry();
        entry.resource = world.size() - 1;
        entry.values = resource.values.clone();
        return entry;
    }

    private void next() {
        for (at++; at < applied.actions.size(); at++) {
            int name = applied.actions.get(at) % 100;
            boolean isLeftOut = stopped.contains(name);
            for (int source : makers.get(name / 16).sources) {
                if (source >= 10) isLeftOut |= stopped.contains(16 * ((source - 10) / 3) + name % 16);
            }
            if (!isLeftOut) return;
            stopped.add(name);
        }
        applied = null;
        isLocked = false;
    }

    boolean isApplying() {
        return applied != null;
    }

    boolean isLocked() {
        return isLocked;
    }

    int serial() {
        return serial;
    }

    // ---- the world and the state

    int entry(int name) {
        index(from0(name, names()));
        Entry entry = state.get(name);
        if (entry == null) return -1;
        int adopted = 0;
        for (int a = 0; a < 3; a++) if (entry.adopted[a] != null) adopted |= 1 << a;
        return 100 * entry.resource + 10 * adopted + (entry.isTainted ? 1 : 0);
    }

    int stored(int name, int attribute) {
        index(from0(name, names()) && state.containsKey(name) && from0(attribute, 3));
        return state.get(name).values[attribute];
    }

    int real(int resource, int attribute) {
        index(from0(resource, world.size()) && from0(attribute, 3));
        return world.get(resource).isGone ? -1 : world.get(resource).values[attribute];
    }

    int resources() {
        return world.size();
    }

    int change(int resource, int attribute, int value) {
        index(from0(resource, world.size()) && from0(attribute, 3));
        argument(from0(value, 256));
        state(!world.get(resource).isGone);
        int before = world.get(resource).values[attribute];
        world.get(resource).values[attribute] = value;
        return before;
    }

    boolean destroy(int resource) {
        index(from0(resource, world.size()));
        boolean wasThere = !world.get(resource).isGone;
        world.get(resource).isGone = true;
        return wasThere;
    }

    int make(int type) {
        index(from0(type, 3));
        state(world.size() < 60);
        Resource resource = new Resource();
        resource.type = type;
        world.add(resource);
        return world.size() - 1;
    }

    int read() {
        state(!isLocked);
        int[] values = values();
        int dropped = 0, drifts = 0;
        for (int name : new ArrayList<>(state.keySet())) {
            Entry entry = state.get(name);
            Resource resource = world.get(entry.resource);
            if (resource.isGone) {
                state.remove(name);
                dropped++;
                continue;
            }
            for (int a = 0; a < 3; a++) {
                if (has(typeOf(name), a, 4) || resource.values[a] == entry.values[a]) continue;
                drifts++;
                entry.values[a] = resource.values[a];
                int given = gives(values, name, a);
                boolean isAdopted = kinds[typeOf(name)].adopts && isWanted(name) && given != -1;
                entry.adopted[a] = isAdopted ? given : null;
            }
        }
        if (dropped + drifts > 0) serial++;
        return 100 * dropped + drifts;
    }

    private boolean hasEntry(int resource) {
        for (Entry entry : state.values()) if (entry.resource == resource) return true;
        return false;
    }

    int move(int name, int other) {
        index(from0(name, names()) && from0(other, names()));
        state(!isLocked && state.containsKey(name) && !state.containsKey(other) && typeOf(name) == typeOf(other));
        state.put(other, state.remove(name));
        serial++;
        return serial;
    }

    int take(int name, int resource) {
        index(from0(name, names()) && from0(resource, world.size()));
        state(!isLocked && !state.containsKey(name) && !world.get(resource).isGone && !hasEntry(resource));
        state(world.get(resource).type == typeOf(name));
        Entry entry = new Entry();
        entry.resource = resource;
        for (int a = 0; a < 3; a++) entry.values[a] = has(typeOf(name), a, 4) ? 0 : world.get(resource).values[a];
        state.put(name, entry);
        serial++;
        return serial;
    }
}

import java.util.ArrayList;
import java.util.List;
import java.util.Map;
import java.util.Set;
import java.util.TreeMap;
import java.util.TreeSet;

/** Part 9: an open transaction: where it began, what it kept, its copies. */
final class ModelTransaction {
    private final Model house;
    final ModelProcess.Level level;
    private final List<ModelProcess.Loop> loops;
    final ModelText.Routine routine;
    private final int line;
    final String text;
    private final boolean inTrapLine;
    private final List<ModelText.Command> commands;
    private final int from;
    boolean restartable;
    private final Map<String, ModelTree> kept = new TreeMap<>();
    private final Map<String, ModelTree> copies = new TreeMap<>();
    private final Map<String, Integer> versions = new TreeMap<>();
    private final Set<String> changed = new TreeSet<>();
    final StringBuilder records = new StringBuilder();

    ModelTransaction(Model house, ModelProcess.Level l, List<ModelText.Command> commands, int from) {
        this.house = house;
        level = l;
        loops = new ArrayList<>(l.loops);
        routine = l.routine;
        line = l.line;
        text = l.text;
        inTrapLine = l.inTrapLine;
        this.commands = commands;
        this.from = from;
    }

    void keep(ModelLocals locals, List<String> names) {
        for (String n : names) {
            ModelTree t = new ModelTree();
            if (locals.seen.containsKey(n)) t.putAll(locals.of(n).values);
            kept.put(n, t);
        }
        house.roomForLocals(keptValues());
    }

    int keptValues() {
        return kept.values().stream().mapToInt(ModelTree::size).sum();
    }

    void bringBack(ModelLocals locals) {
        for (Map.Entry<String, ModelTree> e : kept.entrySet()) {
            ModelTree values = locals.of(e.getKey()).values;
            values.clear();
            values.putAll(e.getValue());
        }
    }

    /** The FOR that was the innermost one at TSTART; null if none was open. */
    ModelProcess.Loop innermost() {
        return loops.isEmpty() ? null : loops.get(loops.size() - 1);
    }

    int from() {
        return from;
    }

    boolean canGoBack(ModelProcess p) {
        return restartable && p.levels.contains(level) && level.loops.containsAll(loops);
    }

    void goBack(ModelProcess.Level l) {
        l.routine = routine;
        l.line = line;
        l.text = text;
        l.inTrapLine = inTrapLine;
        l.commands = commands;
        l.from = from;
    }

    // ---- copies

    void copy(String name) {
        if (copies.containsKey(name)) return;
        ModelTree now = house.tree(name);
        if (copies.size() >= 20) throw new ModelError("Z1");
        house.roomForGlobals(now.size());
        ModelTree t = new ModelTree();
        t.putAll(now);
        copies.put(name, t);
        versions.put(name, house.version(name));
    }

    ModelTree tree(String name) {
        return copies.get(name);
    }

    Set<String> names() {
        return copies.keySet();
    }

    int values() {
        return copies.values().stream().mapToInt(ModelTree::size).sum();
    }

    void record(String name, String record) {
        if (records.length() + record.length() > 8000) throw new ModelError("Z1");
        records.append(record);
        changed.add(name);
    }

    boolean isInConflict() {
        return versions.entrySet().stream().anyMatch(e -> house.version(e.getKey()) != e.getValue());
    }

    void commit() {
        if (records.length() == 0) return;
        house.unit(records.toString());
        for (String name : changed) house.replace(name, copies.get(name));
    }
}

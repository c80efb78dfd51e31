import java.util.ArrayList;
import java.util.Collection;
import java.util.Collections;
import java.util.HashSet;
import java.util.IdentityHashMap;
import java.util.List;
import java.util.Map;
import java.util.Set;
import java.util.TreeMap;

/** The locals of a process: those that are seen, and those that are hidden till a level is over. */
final class ModelLocals {
    static final class Local {
        ModelTree values = new ModelTree();
        /** By how many . NAMEs it is one with others. */
        int links;
    }

    /** What comes back: one name's local (or none), or all that were seen. */
    private static final class Hidden {
        String name;
        Local local;
        Map<String, Local> all;
        int count = 1;
        Local linked;
    }

    Map<String, Local> seen = new TreeMap<>();
    private final List<Hidden> hidden = new ArrayList<>();

    Local of(String name) {
        return seen.computeIfAbsent(name, n -> new Local());
    }

    int hiddenEntries() {
        return hidden.size();
    }

    private int hiddenCount() {
        return hidden.stream().mapToInt(h -> h.count).sum();
    }

    void roomToHide(int more) {
        if (hiddenCount() + more > 300) throw new ModelError("Z1");
    }

    void hide(String name) {
        Hidden h = new Hidden();
        h.name = name;
        h.local = seen.remove(name);
        hidden.add(h);
    }

    /** The name that was hidden last is one with a local. */
    void link(String name, Local with) {
        seen.put(name, with);
        with.links++;
        hidden.get(hidden.size() - 1).linked = with;
    }

    void hideAllBut(List<String> names) {
        Hidden h = new Hidden();
        h.count = names.size() + 1;
        for (Map.Entry<String, Local> e : seen.entrySet()) {
            Local l = e.getValue();
            if (!names.contains(e.getKey()) && (!l.values.isEmpty() || l.links > 0)) h.count++;
        }
        roomToHide(h.count);
        Map<String, Local> now = new TreeMap<>();
        for (String n : names) now.put(n, of(n));
        h.all = seen;
        hidden.add(h);
        seen = now;
    }

    /** What was hidden comes back, up to so many. */
    void unhide(int left) {
        while (hidden.size() > left) {
            Hidden h = hidden.remove(hidden.size() - 1);
            if (h.linked != null) h.linked.links--;
            if (h.all != null) seen = h.all;
            else if (h.local != null) seen.put(h.name, h.local);
            else seen.remove(h.name);
        }
    }

    void killAllBut(List<String> names) {
        Set<Local> kept = new HashSet<>();
        for (String n : names) kept.add(seen.get(n));
        for (Local l : seen.values()) if (!kept.contains(l)) l.values.clear();
    }

    List<String> withData() {
        List<String> names = new ArrayList<>();
        for (Map.Entry<String, Local> e : seen.entrySet()) if (!e.getValue().values.isEmpty()) names.add(e.getKey());
        return names;
    }

    void clear() {
        seen.clear();
        hidden.clear();
    }

    int seenValues() {
        Set<Local> all = Collections.newSetFromMap(new IdentityHashMap<>());
        all.addAll(seen.values());
        return valuesOf(all);
    }

    int values() {
        Set<Local> all = Collections.newSetFromMap(new IdentityHashMap<>());
        all.addAll(seen.values());
        for (Hidden h : hidden) {
            if (h.local != null) all.add(h.local);
            if (h.all != null) all.addAll(h.all.values());
        }
        return valuesOf(all);
    }

    private static int valuesOf(Collection<Local> locals) {
        return locals.stream().mapToInt(l -> l.values.size()).sum();
    }
}

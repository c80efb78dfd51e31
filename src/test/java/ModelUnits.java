import java.util.ArrayList;
import java.util.List;
import java.util.Set;
import java.util.TreeSet;

/** Part 10: the units of a sync, read again as far as they are whole and such. */
final class ModelUnits {
    /** A routine that is saved, a node that is set (with a value) or killed. */
    static final class Rec {
        ModelText.Routine routine;
        ModelTree.Node node;
        String value;
    }

    private final Model house;
    private final String bytes;
    private int at;

    ModelUnits(Model house, String bytes) {
        this.house = house;
        this.bytes = bytes;
    }

    /** How many units were done again. */
    int redo() {
        int units = 0;
        for (List<Rec> unit = unit(); unit != null; unit = unit()) {
            for (Rec r : unit) house.redo(r);
            units++;
        }
        return units;
    }

    private List<Rec> unit() {
        List<Rec> all = new ArrayList<>();
        Set<String> names = new TreeSet<>(house.routines.keySet());
        for (int type = next(); type != 0; type = next()) {
            Rec r = type == 3 ? routine() : type == 1 || type == 2 ? node(type == 1) : null;
            if (r == null) return null;
            if (r.routine != null) names.add(r.routine.name);
            if (names.size() > 16) return null;
            all.add(r);
        }
        return all.isEmpty() ? null : all;
    }

    private int next() {
        return at < bytes.length() ? bytes.charAt(at++) : -1;
    }

    private String next(int length) {
        if (length < 0 || at + length > bytes.length()) return null;
        at += length;
        return bytes.substring(at - length, at);
    }

    private Rec routine() {
        Rec r = new Rec();
        String name = next(next());
        int high = next(), low = next();
        String text = low < 0 || high * 256 + low > 3000 ? null : next(high * 256 + low);
        if (name == null || text == null || !ModelText.isName(name)) return null;
        try {
            r.routine = ModelText.routine(name, text);
        } catch (ModelText.Fault f) {
            return null;
        }
        return r;
    }

    private Rec node(boolean set) {
        Rec r = new Rec();
        int subscripts = next();
        String name = next(next());
        if (name == null || !ModelText.isName(name)) return null;
        r.node = new ModelTree.Node(true, name);
        for (int i = 0; i < subscripts; i++) {
            String s = next(next());
            if (s == null) return null;
            r.node.subscripts.add(s);
        }
        if (!r.node.canBe(false)) return null;
        int length = set ? next() : 0;
        if (set) r.value = length > 250 ? null : next(length);
        return set && r.value == null ? null : r;
    }
}

import java.util.ArrayList;
import java.util.Comparator;
import java.util.List;
import java.util.TreeMap;

/** Part 2: the nodes of one name that have values, in their order. */
final class ModelTree extends TreeMap<List<String>, String> {
    static final Comparator<List<String>> ORDER = ModelTree::order;

    ModelTree() {
        super(ORDER);
    }

    private static int order(List<String> a, List<String> b) {
        for (int i = 0; i < a.size() && i < b.size(); i++) {
            int c = ModelNumber.order(a.get(i), b.get(i));
            if (c != 0) return c;
        }
        return a.size() - b.size();
    }

    static boolean isBelow(List<String> node, List<String> of) {
        return node.size() > of.size() && node.subList(0, of.size()).equals(of);
    }

    int data(List<String> node) {
        List<String> next = higherKey(node);
        return (containsKey(node) ? 1 : 0) + (next != null && isBelow(next, node) ? 10 : 0);
    }

    void kill(List<String> node) {
        keySet().removeIf(k -> k.equals(node) || isBelow(k, node));
    }

    /** The subscript at the last place behind (1) or before (-1) this one. */
    String beside(List<String> node, int direction) {
        List<String> above = node.subList(0, node.size() - 1);
        String last = node.get(node.size() - 1), best = "";
        for (List<String> k : keySet()) {
            if (!isBelow(k, above)) continue;
            String s = k.get(above.size());
            boolean right = last.isEmpty() || direction * ModelNumber.order(s, last) > 0;
            if (right && (best.isEmpty() || direction * ModelNumber.order(s, best) < 0)) best = s;
        }
        return best;
    }

    /** A name with subscripts, or a NAKED one's subscripts. */
    static final class Node {
        final boolean global;
        final String name;
        final List<String> subscripts = new ArrayList<>();

        Node(boolean global, String name) {
            this.global = global;
            this.name = name;
        }

        Node(boolean global, String name, List<String> subscripts) {
            this(global, name);
            this.subscripts.addAll(subscripts);
        }

        boolean isNaked() {
            return name == null;
        }

        boolean canBe(boolean emptyLast) {
            int size = name.length(), n = subscripts.size();
            for (int i = 0; i < n; i++) {
                int length = subscripts.get(i).length();
                if (length > 60 || length == 0 && !(emptyLast && i == n - 1)) return false;
                size += 2 + length;
            }
            return n <= 6 && size <= 100;
        }

        String text() {
            return text(subscripts.size());
        }

        String text(int most) {
            StringBuilder b = new StringBuilder(global ? "^" : "").append(name);
            for (int i = 0; i < Math.min(most, subscripts.size()); i++) {
                String s = subscripts.get(i);
                b.append(i == 0 ? '(' : ',').append(ModelNumber.isCanonic(s) ? s : '"' + s.replace("\"", "\"\"") + '"');
            }
            return b.append(b.indexOf("(") > 0 ? ")" : "").toString();
        }

        /** What a text as of $NAME tells; null if it is none. */
        static Node of(String text, boolean emptyLast) {
            boolean global = text.startsWith("^");
            int open = text.indexOf('('), from = global ? 1 : 0;
            String name = text.substring(from, open < from ? text.length() : open);
            if (!ModelText.isName(name)) return null;
            Node n = new Node(global, name);
            int at = open;
            while (at >= from && at < text.length() && (at == open || text.charAt(at) == ',')) {
                int end = endOfSubscript(text, at + 1);
                String s = text.substring(at + 1, end);
                n.subscripts.add(s.startsWith("\"") && s.length() > 1 ? s.substring(1, s.length() - 1).replace("\"\"", "\"") : s);
                at = end;
            }
            // each text of a node is one alone
            return n.canBe(emptyLast) && n.text().equals(text) ? n : null;
        }

        private static int endOfSubscript(String text, int from) {
            boolean quoted = false;
            for (int i = from; i < text.length(); i++) {
                char c = text.charAt(i);
                if (c == '"') quoted = !quoted;
                if (!quoted && (c == ',' || c == ')')) return i;
            }
            return text.length();
        }
    }
}

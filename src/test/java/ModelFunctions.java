import java.math.BigDecimal;
import java.math.RoundingMode;
import java.util.ArrayList;
import java.util.List;

/** Part 4: operators, and the functions that need nothing but their arguments' strings. */
final class ModelFunctions {
    private ModelFunctions() {
    }

    static String joined(String a, String b) {
        return checked(a + b);
    }

    static String checked(String s) {
        if (s.length() > 250) throw new ModelError("M75");
        return s;
    }

    static String truth(boolean is) {
        return is ? "1" : "0";
    }

    static String operator(String operator, String a, String b) {
        switch (operator) {
            case "_": return joined(a, b);
            case "=": return truth(a.equals(b));
            case "[": return truth(a.contains(b));
            case "]": return truth(a.compareTo(b) > 0);
            case "]]": return truth(ModelNumber.order(a, b) > 0);
            default: return ofNumbers(operator, ModelNumber.read(a), ModelNumber.read(b));
        }
    }

    private static String ofNumbers(String operator, BigDecimal a, BigDecimal b) {
        return switch (operator) {
            case "+" -> ModelNumber.text(ModelNumber.fitted(a.add(b)));
            case "-" -> ModelNumber.text(ModelNumber.fitted(a.subtract(b)));
            case "*" -> ModelNumber.text(ModelNumber.fitted(a.multiply(b)));
            case "/" -> ModelNumber.text(ModelNumber.quotient(a, b));
            case "\\" -> ModelNumber.text(ModelNumber.wholeQuotient(a, b));
            case "#" -> ModelNumber.text(ModelNumber.modulo(a, b));
            case "**" -> ModelNumber.text(ModelNumber.power(a, b));
            case "<" -> truth(a.compareTo(b) < 0);
            case ">" -> truth(a.compareTo(b) > 0);
            case "&" -> truth(a.signum() != 0 && b.signum() != 0);
            default -> truth(a.signum() != 0 || b.signum() != 0);
        };
    }

    static String function(String word, List<String> v) {
        String s = v.get(0);
        return switch (word) {
            case "ASCII" -> ascii(s, whole(v, 1, 1));
            case "CHAR" -> characters(v);
            case "EXTRACT" -> extract(s, whole(v, 1, 1), whole(v, 2, whole(v, 1, 1)));
            case "FIND" -> find(s, v.get(1), Math.max(1, whole(v, 2, 1)));
            case "FNUMBER" -> formatted(ModelNumber.read(s), v.get(1));
            case "JUSTIFY" -> v.size() < 3 ? justified(s, whole(v, 1, 0)) : justified(s, whole(v, 1, 0), whole(v, 2, 0));
            case "LENGTH" -> "" + (v.size() < 2 ? s.length() : v.get(1).isEmpty() ? 0 : cut(s, v.get(1)).size());
            case "PIECE" -> pieces(s, v.get(1), whole(v, 2, 1), whole(v, 3, whole(v, 2, 1)));
            case "QLENGTH" -> "" + node(s).subscripts.size();
            case "QSUBSCRIPT" -> subscript(whole(v, 1, 0), s);
            case "REVERSE" -> new StringBuilder(s).reverse().toString();
            default -> translated(s, v.get(1), v.size() > 2 ? v.get(2) : "");
        };
    }

    private static long whole(List<String> v, int i, long otherwise) {
        return i < v.size() ? ModelNumber.whole(v.get(i)) : otherwise;
    }

    private static String ascii(String s, long n) {
        return n >= 1 && n <= s.length() ? "" + (int) s.charAt((int) n - 1) : "-1";
    }

    private static String characters(List<String> v) {
        StringBuilder b = new StringBuilder();
        for (String s : v) {
            long n = ModelNumber.whole(s);
            if (n >= 0 && n <= 255) b.append((char) n);
        }
        return b.toString();
    }

    private static String extract(String s, long n, long m) {
        int from = (int) Math.max(1, n) - 1, to = (int) Math.min(m, s.length());
        return from < to ? s.substring(from, to) : "";
    }

    private static String find(String s, String t, long n) {
        if (n > s.length() + 1) return "0";
        int place = s.indexOf(t, (int) n - 1);
        return place < 0 ? "0" : "" + (place + t.length() + 1);
    }

    private static String formatted(BigDecimal x, String codes) {
        String text = ModelNumber.text(x.abs());
        int point = text.indexOf('.');
        StringBuilder b = new StringBuilder(text);
        for (int i = (point < 0 ? text.length() : point) - 3; codes.contains(",") && i > 0; i -= 3) b.insert(i, ',');
        if (x.signum() > 0 && codes.contains("+")) b.insert(0, '+');
        if (x.signum() < 0 && !codes.contains("-")) b.insert(0, '-');
        return b.toString();
    }

    private static String justified(String s, long n) {
        if (n <= s.length()) return s;
        if (n > 250) throw new ModelError("M75");
        return " ".repeat((int) n - s.length()) + s;
    }

    private static String justified(String s, long n, long places) {
        if (places < 0 || places > 30) throw new ModelError("M92");
        return justified(ModelNumber.read(s).setScale((int) places, RoundingMode.HALF_UP).toPlainString(), n);
    }

    /** The pieces between each t, which is not empty. */
    static List<String> cut(String s, String t) {
        List<String> all = new ArrayList<>();
        int from = 0;
        for (int i = s.indexOf(t); i >= 0; i = s.indexOf(t, from)) {
            all.add(s.substring(from, i));
            from = i + t.length();
        }
        all.add(s.substring(from));
        return all;
    }

    private static String pieces(String s, String t, long n, long m) {
        if (t.isEmpty()) return "";
        List<String> all = cut(s, t);
        int from = (int) Math.max(1, n) - 1, to = (int) Math.min(m, all.size());
        return from < to ? String.join(t, all.subList(from, to)) : "";
    }

    private static ModelTree.Node node(String text) {
        ModelTree.Node n = ModelTree.Node.of(text, false);
        if (n == null) throw new ModelError("Z3");
        return n;
    }

    private static String subscript(long i, String text) {
        ModelTree.Node n = node(text);
        if (i == 0) return n.text(0);
        return i > 0 && i <= n.subscripts.size() ? n.subscripts.get((int) i - 1) : "";
    }

    private static String translated(String s, String t, String u) {
        StringBuilder b = new StringBuilder();
        for (char c : s.toCharArray()) {
            int i = t.indexOf(c);
            if (i < 0) b.append(c);
            else if (i < u.length()) b.append(u.charAt(i));
        }
        return b.toString();
    }

    /** What SET $PIECE makes of a string; null if it does nothing. */
    static String withPieces(String old, String t, long n, long m, String value) {
        long first = Math.max(1, n);
        if (m < first || t.isEmpty()) return null;
        List<String> all = cut(old, t);
        if (first > all.size() + 250) throw new ModelError("M75");
        while (all.size() < first) all.add("");
        List<String> now = new ArrayList<>(all.subList(0, (int) first - 1));
        now.add(value);
        if (m < all.size()) now.addAll(all.subList((int) m, all.size()));
        return checked(String.join(t, now));
    }

    /** What SET $EXTRACT makes of a string; null if it does nothing. */
    static String withBytes(String old, long n, long m, String value) {
        long first = Math.max(1, n);
        if (m < first) return null;
        if (first > 251) throw new ModelError("M75");
        String padded = old + " ".repeat((int) Math.max(0, first - 1 - old.length()));
        String rest = m < old.length() ? old.substring((int) m) : "";
        return checked(padded.substring(0, (int) first - 1) + value + rest);
    }
}

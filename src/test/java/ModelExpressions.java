import java.math.BigDecimal;
import java.util.ArrayList;
import java.util.List;
import java.util.TreeSet;

/** Part 4: what expressions and nodes give in a process. */
final class ModelExpressions {
    private final ModelProcess p;

    ModelExpressions(ModelProcess p) {
        this.p = p;
    }

    /** The value, which is in hand no more. */
    String value(ModelText.Expr e) {
        String s = inHand(e);
        p.hands.strings--;
        return s;
    }

    /** The value, which is in hand till who asked lets it go. */
    String inHand(ModelText.Expr e) {
        return switch (e.kind) {
            case "string" -> p.hands.string(e.word);
            case "number" -> p.hands.string(ModelNumber.text(ModelNumber.read(e.word)));
            case "ref" -> refValue(e.ref);
            case "sign" -> p.hands.string(signed(e.word, value(e.parts.get(0))));
            case "operator" -> operated(e);
            case "pattern" -> matched(e);
            case "extrinsic" -> p.hands.string(p.call(e.entry, true, false));
            case "special" -> p.hands.string(special(e.word));
            default -> function(e);
        };
    }

    private static String signed(String sign, String s) {
        BigDecimal x = ModelNumber.read(s);
        if (sign.equals("'")) return ModelFunctions.truth(x.signum() == 0);
        return ModelNumber.text(sign.equals("-") ? x.negate() : x);
    }

    private String operated(ModelText.Expr e) {
        String a = inHand(e.parts.get(0)), b = inHand(e.parts.get(1));
        String s = ModelFunctions.operator(e.word, a, b);
        p.hands.strings -= 2;
        return p.hands.string(e.not ? ModelFunctions.truth(s.equals("0")) : s);
    }

    private String matched(ModelText.Expr e) {
        String s = inHand(e.parts.get(0));
        List<ModelText.Part> parts = e.pattern;
        if (parts == null) {
            String text = value(e.parts.get(1));
            p.hands.text();
            parts = ModelText.pattern(text);
            p.hands.texts--;
        }
        p.hands.strings--;
        return p.hands.string(ModelFunctions.truth(ModelPattern.fits(s, parts) != e.not));
    }

    private String special(String word) {
        return switch (word) {
            case "ECODE" -> p.code;
            case "ETRAP" -> p.top().trap;
            case "HOROLOG" -> p.house.second / 86400 + "," + p.house.second % 86400;
            case "JOB" -> "" + p.number;
            case "QUIT" -> ModelFunctions.truth(p.top().extrinsic);
            case "STACK" -> "" + (p.levels.size() - 1);
            case "TEST" -> ModelFunctions.truth(p.test);
            case "TLEVEL" -> "" + p.transactionLevel;
            case "TRESTART" -> "" + p.restarts;
            case "X" -> "" + p.x;
            default -> "" + p.y;
        };
    }

    // ---- functions

    private String function(ModelText.Expr e) {
        switch (e.word) {
            case "DATA": {
                ModelTree.Node n = meet(node(e.ref), false);
                p.hands.nodes--;
                return p.hands.string("" + tree(n).data(n.subscripts));
            }
            case "QUERY": {
                ModelTree.Node n = meet(node(e.ref), true);
                p.hands.nodes--;
                List<String> next = tree(n).higherKey(n.subscripts);
                return p.hands.string(next == null ? "" : new ModelTree.Node(n.global, n.name, next).text());
            }
            case "GET": return get(e);
            case "NAME": return name(e);
            case "ORDER": return order(e);
            case "TEXT": return p.hands.string(text(e.entry));
            case "SELECT": return select(e);
            case "RANDOM": return p.hands.string(random(ModelNumber.whole(value(e.parts.get(0)))));
            default: return plain(e);
        }
    }

    private String plain(ModelText.Expr e) {
        List<String> values = new ArrayList<>();
        for (ModelText.Expr part : e.parts) values.add(inHand(part));
        String s = ModelFunctions.function(e.word, values);
        p.hands.strings -= values.size();
        return p.hands.string(s);
    }

    private String get(ModelText.Expr e) {
        ModelTree.Node n = meet(node(e.ref), false);
        p.hands.nodes--;
        String s = tree(n).get(n.subscripts);
        return s == null && !e.parts.isEmpty() ? inHand(e.parts.get(0)) : p.hands.string(s == null ? "" : s);
    }

    private String name(ModelText.Expr e) {
        ModelTree.Node n = node(e.ref);
        long most = e.parts.isEmpty() ? 6 : ModelNumber.whole(value(e.parts.get(0)));
        if (most < 0) throw new ModelError("M92");
        n = meet(n, false);
        p.hands.nodes--;
        return p.hands.string(n.text((int) Math.min(most, 6)));
    }

    private String order(ModelText.Expr e) {
        ModelTree.Node n = node(e.ref);
        long direction = e.parts.isEmpty() ? 1 : ModelNumber.whole(value(e.parts.get(0)));
        if (direction != 1 && direction != -1) throw new ModelError("M92");
        boolean byName = n.subscripts.isEmpty();
        if (!byName) n = meet(n, true);
        p.hands.nodes--;
        return p.hands.string(byName ? nameBeside(n, (int) direction) : tree(n).beside(n.subscripts, (int) direction));
    }

    private String nameBeside(ModelTree.Node n, int direction) {
        TreeSet<String> names = new TreeSet<>(n.global ? p.house.globalNames(p.transaction) : p.locals.withData());
        return Model.beside(names, n, direction);
    }

    private String select(ModelText.Expr e) {
        for (int i = 0; i < e.parts.size(); i += 2) if (ModelNumber.isTrue(value(e.parts.get(i)))) return inHand(e.parts.get(i + 1));
        throw new ModelError("M4");
    }

    private String random(long n) {
        if (n < 1) throw new ModelError("M3");
        p.stream = Model.next(p.stream);
        return "" + (p.stream >>> 33) % n;
    }

    private String text(ModelText.Entry e) {
        long plus = p.plus(e);
        ModelProcess.Level top = p.top(), l = p.find(e, plus);
        ModelText.Routine r = e.routine != null ? p.house.routines.get(e.routine) : top.text != null ? null : top.routine;
        if (r != null && e.label == null && e.plus != null && plus == 0) return r.name;
        if (l == null) return "";
        return ModelFunctions.checked(l.routine.lines.get(l.line).text);
    }

    // ---- nodes

    private String refValue(ModelText.Ref ref) {
        ModelTree.Node n = meet(node(ref), false);
        String s = tree(n).get(n.subscripts);
        if (s == null) throw new ModelError(n.global ? "M7" : "M6");
        p.hands.nodes--;
        return p.hands.string(s);
    }

    /** What a REF tells, in hand till it is let go. */
    ModelTree.Node node(ModelText.Ref ref) {
        ModelTree.Node n;
        if (ref.kind.equals("at")) {
            String text = value(ref.atom);
            p.hands.text();
            n = node(ModelText.ref(text));
            p.hands.texts--;
        } else {
            n = new ModelTree.Node(!ref.kind.equals("local"), ref.name);
        }
        for (ModelText.Expr e : ref.subscripts) n.subscripts.add(inHand(e));
        p.hands.strings -= ref.subscripts.size();
        if (!ref.kind.equals("at")) p.hands.node();
        return n;
    }

    /** The node as it is used: a NAKED one is made out. */
    ModelTree.Node madeOut(ModelTree.Node n, boolean emptyLast) {
        ModelTree.Node out = n;
        if (n.isNaked()) {
            if (p.naked == null || p.naked.subscripts.isEmpty()) throw new ModelError("M1");
            out = new ModelTree.Node(true, p.naked.name, p.naked.subscripts.subList(0, p.naked.subscripts.size() - 1));
            out.subscripts.addAll(n.subscripts);
        }
        if (!out.canBe(emptyLast)) throw new ModelError("Z2");
        return out;
    }

    ModelTree.Node meet(ModelTree.Node n, boolean emptyLast) {
        ModelTree.Node out = madeOut(n, emptyLast);
        if (!out.global) return out;
        p.naked = out;
        if (p.transaction != null) p.transaction.copy(out.name);
        return out;
    }

    ModelTree tree(ModelTree.Node n) {
        if (!n.global) return p.locals.of(n.name).values;
        return p.transaction != null ? p.transaction.tree(n.name) : p.house.tree(n.name);
    }
}

import java.math.BigDecimal;
import java.util.ArrayList;
import java.util.LinkedHashMap;
import java.util.List;
import java.util.Map;

/** Parts 5 and 9: what commands do in a process. */
final class ModelCommands {
    private final ModelProcess p;

    ModelCommands(ModelProcess p) {
        this.p = p;
    }

    private ModelExpressions expressions() {
        return p.expressions;
    }

    private boolean isTrue(ModelText.Expr condition) {
        return condition == null || ModelNumber.isTrue(expressions().value(condition));
    }

    /** Commands of a line from one on; in the part of a FOR, if one is told. */
    ModelProcess.End run(ModelProcess.Level l, List<ModelText.Command> commands, int from, ModelProcess.Loop loop) {
        for (int i = from; i < commands.size(); i++) {
            ModelText.Command c = commands.get(i);
            p.begin();
            if (!isTrue(c.condition)) continue;
            switch (c.word) {
                case "FOR": return loop(l, commands, i);
                case "QUIT":
                    if (c.arguments.isEmpty() && loop != null) return ModelProcess.End.LOOP;
                    quit(l, c);
                    return ModelProcess.End.LEVEL;
                case "TSTART":
                    begin(l, commands, i);
                    break;
                default:
                    ModelProcess.End end = done(l, c);
                    if (end != null) return end;
            }
        }
        return ModelProcess.End.LINE;
    }

    private void quit(ModelProcess.Level l, ModelText.Command c) {
        l.value = null;
        if (c.arguments.isEmpty()) return;
        String value = expressions().value(c.arguments.get(0).value);
        if (!l.extrinsic && !l.trapped) throw new ModelError("M16");
        l.value = value;
    }

    /** How the line ends with this command; null if it goes on. */
    private ModelProcess.End done(ModelProcess.Level l, ModelText.Command c) {
        switch (c.word) {
            case "ELSE": return p.test ? ModelProcess.End.LINE : null;
            case "BREAK": return null;
            case "HALT":
                p.halt();
                return null;
            case "TCOMMIT":
                commit();
                return null;
            case "TROLLBACK":
                needTransaction();
                endTransaction();
                return null;
            case "TRESTART":
                needTransaction();
                restart();
                return null;
            default:
                if (!c.arguments.isEmpty()) return arguments(l, c.word, c.arguments);
                bare(l, c.word);
                return null;
        }
    }

    private void bare(ModelProcess.Level l, String word) {
        switch (word) {
            case "DO" -> block(l);
            case "KILL" -> p.locals.killAllBut(List.of());
            case "LOCK" -> p.locks.clear();
            default -> p.locals.hideAllBut(List.of());
        }
    }

    private void block(ModelProcess.Level l) {
        if (l.text != null) return;
        int own = l.lineLevel() + 1;
        for (int i = l.line + 1; i < l.routine.lines.size() && l.routine.lines.get(i).level >= own; i++) {
            if (l.routine.lines.get(i).level > own) continue;
            p.roomForLevel();
            ModelProcess.Level b = new ModelProcess.Level();
            b.block = true;
            b.own = own;
            b.trap = l.trap;
            b.to(l.routine, i);
            p.enter(b);
            return;
        }
    }

    private ModelProcess.End arguments(ModelProcess.Level l, String word, List<ModelText.Argument> all) {
        for (ModelText.Argument a : all) {
            if (!isTrue(a.condition)) continue;
            ModelProcess.End end;
            if (a.at != null) {
                String text = expressions().value(a.at);
                p.hands.text();
                end = arguments(l, word, ModelText.arguments(word, text));
                p.hands.texts--;
            } else {
                end = argument(l, word, a);
            }
            if (end != null) return end;
        }
        return null;
    }

    private ModelProcess.End argument(ModelProcess.Level l, String word, ModelText.Argument a) {
        switch (word) {
            case "GOTO":
                jump(l, p.located(a.entry));
                return ModelProcess.End.GOTO;
            case "IF":
                p.test = ModelNumber.isTrue(expressions().value(a.value));
                return p.test ? null : ModelProcess.End.LINE;
            case "DO":
                p.call(a.entry, false, false);
                return null;
            case "JOB":
                p.call(a.entry, false, true);
                return null;
            case "XECUTE":
                execute(l, expressions().value(a.value));
                return null;
            default:
                toNodes(l, word, a);
                return null;
        }
    }

    private void toNodes(ModelProcess.Level l, String word, ModelText.Argument a) {
        switch (word) {
            case "HANG" -> hang(ModelNumber.whole(expressions().value(a.value)));
            case "KILL" -> {
                if (a.names != null) p.locals.killAllBut(a.names);
                else kill(a.ref);
            }
            case "NEW" -> {
                if (a.names == null) p.locals.roomToHide(1);
                if (a.names == null) p.locals.hide(a.format);
                else p.locals.hideAllBut(a.names);
            }
            case "LOCK" -> lock(a);
            case "MERGE" -> merge(a);
            case "READ" -> read(a);
            case "WRITE" -> write(a);
            default -> set(l, a);
        }
    }

    private static void jump(ModelProcess.Level l, ModelProcess.Level to) {
        int level = l.lineLevel();
        if (to.lineLevel() != level) throw new ModelError("M45");
        if (level > 1) {
            if (to.routine != l.routine) throw new ModelError("M45");
            for (int i = Math.min(l.line, to.line); i < Math.max(l.line, to.line); i++) {
                if (l.routine.lines.get(i).level < level) throw new ModelError("M45");
            }
        }
        l.to(to.routine, to.line);
    }

    private void execute(ModelProcess.Level l, String text) {
        p.roomForLevel();
        ModelProcess.Level x = new ModelProcess.Level();
        x.text = text;
        x.commands = ModelText.commands(text);
        x.trap = l.trap;
        p.enter(x);
    }

    private void hang(long seconds) {
        if (seconds > 0) p.await(ModelProcess.FOR_TIME, true, seconds);
    }

    // ---- nodes

    private void store(ModelTree.Node n, String value) {
        ModelTree t = expressions().tree(n);
        int fresh = t.containsKey(n.subscripts) ? 0 : 1;
        if (n.global) changed(n.name, Model.setRecord(n, value), fresh);
        else p.house.roomForLocals(fresh);
        expressions().tree(n).put(n.subscripts, value);
    }

    /** Notes what is to be done to a global, if there is room for it. */
    private void changed(String name, String record, int fresh) {
        p.house.roomForGlobals(fresh);
        if (p.transaction != null) {
            p.transaction.record(name, record);
        } else {
            p.house.unit(record);
            p.house.change(name);
        }
    }

    private void kill(ModelText.Ref ref) {
        ModelTree.Node n = expressions().meet(expressions().node(ref), false);
        p.hands.nodes--;
        if (expressions().tree(n).data(n.subscripts) == 0) return;
        if (n.global) changed(n.name, Model.killRecord(n), 0);
        expressions().tree(n).kill(n.subscripts);
    }

    private void merge(ModelText.Argument a) {
        ModelTree.Node to = expressions().node(a.ref), from = expressions().node(a.from);
        to = expressions().meet(to, false);
        from = expressions().meet(from, false);
        p.hands.nodes -= 2;
        if (isOneTree(to, from) && (Model.isSameOrBelow(to, from) || Model.isSameOrBelow(from, to))) throw new ModelError("M19");
        Map<ModelTree.Node, String> all = merged(to, from);
        if (all.isEmpty()) return;
        int fresh = 0;
        StringBuilder records = new StringBuilder();
        for (Map.Entry<ModelTree.Node, String> e : all.entrySet()) {
            if (!expressions().tree(to).containsKey(e.getKey().subscripts)) fresh++;
            records.append(Model.setRecord(e.getKey(), e.getValue()));
        }
        if (to.global) changed(to.name, records.toString(), fresh);
        else p.house.roomForLocals(fresh);
        for (Map.Entry<ModelTree.Node, String> e : all.entrySet()) expressions().tree(to).put(e.getKey().subscripts, e.getValue());
    }

    private boolean isOneTree(ModelTree.Node a, ModelTree.Node b) {
        if (a.global || b.global) return a.global && b.global && a.name.equals(b.name);
        return p.locals.of(a.name) == p.locals.of(b.name);
    }

    private Map<ModelTree.Node, String> merged(ModelTree.Node to, ModelTree.Node from) {
        Map<ModelTree.Node, String> all = new LinkedHashMap<>();
        for (Map.Entry<List<String>, String> e : expressions().tree(from).entrySet()) {
            List<String> key = e.getKey();
            if (!key.equals(from.subscripts) && !ModelTree.isBelow(key, from.subscripts)) continue;
            ModelTree.Node n = new ModelTree.Node(to.global, to.name, to.subscripts);
            n.subscripts.addAll(key.subList(from.subscripts.size(), key.size()));
            if (!n.canBe(false)) throw new ModelError("Z2");
            all.put(n, e.getValue());
        }
        return all;
    }

    private void set(ModelProcess.Level l, ModelText.Argument a) {
        ModelHands before = p.hands.copy();
        List<ModelTree.Node> nodes = new ArrayList<>();
        List<List<String>> values = new ArrayList<>();
        for (ModelText.Target t : a.targets) {
            nodes.add(t.ref == null ? null : expressions().node(t.ref));
            List<String> worked = new ArrayList<>();
            for (ModelText.Expr e : t.values) worked.add(expressions().inHand(e));
            values.add(worked);
        }
        String value = expressions().inHand(a.value);
        for (int i = 0; i < a.targets.size(); i++) set(l, a.targets.get(i).kind, nodes.get(i), values.get(i), value);
        p.hands.set(before);
    }

    private void set(ModelProcess.Level l, String kind, ModelTree.Node node, List<String> values, String value) {
        switch (kind) {
            case "ECODE" -> setCode(value);
            case "ETRAP" -> l.trap = value;
            case "node" -> store(expressions().meet(node, false), value);
            default -> setPart(kind.equals("PIECE") ? 1 : 0, node, values, value);
        }
    }

    private void setCode(String value) {
        if (!value.isEmpty() && (value.length() < 3 || !value.startsWith(",") || !value.endsWith(","))) throw new ModelError("M101");
        p.code = value;
        if (!value.isEmpty()) throw new ModelError(null);
    }

    /** SET $PIECE, whose first value is what stands between, or $EXTRACT. */
    private void setPart(int first, ModelTree.Node node, List<String> values, String value) {
        long n = values.size() > first ? ModelNumber.whole(values.get(first)) : 1;
        long m = values.size() > first + 1 ? ModelNumber.whole(values.get(first + 1)) : n;
        ModelTree.Node met = expressions().meet(node, false);
        String old = expressions().tree(met).getOrDefault(met.subscripts, "");
        String now = first == 1 ? ModelFunctions.withPieces(old, values.get(0), n, m, value) : ModelFunctions.withBytes(old, n, m, value);
        if (now != null) store(met, now);
    }

    // ---- lines written and read

    private void write(String s) {
        for (char c : s.toCharArray()) {
            if (p.written.length() < 2000) p.written.append(c);
            p.x = c == 10 || c == 12 ? 0 : (p.x + 1) % 1000000;
            p.y = c == 12 ? 0 : c == 10 ? (p.y + 1) % 1000000 : p.y;
        }
    }

    private void write(ModelText.Argument a) {
        if (a.format != null) {
            format(a);
        } else if (a.star) {
            long n = ModelNumber.whole(expressions().value(a.value));
            if (n >= 0 && n <= 255) write("" + (char) n);
        } else {
            write(expressions().value(a.value));
        }
    }

    private void format(ModelText.Argument a) {
        write(a.format.replace('!', '\n').replace('#', '\f'));
        if (a.value == null) return;
        long n = ModelNumber.whole(expressions().value(a.value));
        if (n < 1000000 && n > p.x) write(" ".repeat((int) n - p.x));
    }

    private void read(ModelText.Argument a) {
        if (a.ref == null) {
            write(a);
            return;
        }
        ModelTree.Node n = expressions().node(a.ref);
        boolean timed = a.value != null;
        long seconds = timed ? ModelNumber.whole(expressions().value(a.value)) : 0;
        if (p.told.isEmpty()) p.await(ModelProcess.FOR_LINE, timed, seconds);
        boolean came = !p.told.isEmpty();
        if (timed) p.test = came;
        String line = came ? p.told.remove(0) : "";
        n = expressions().meet(n, false);
        p.hands.nodes--;
        store(n, line);
    }

    // ---- locks

    private void lock(ModelText.Argument a) {
        List<ModelTree.Node> nodes = new ArrayList<>(), told = new ArrayList<>();
        for (ModelText.Ref r : a.refs) told.add(expressions().node(r));
        boolean timed = a.value != null;
        long seconds = timed ? ModelNumber.whole(expressions().value(a.value)) : 0;
        for (ModelTree.Node n : told) nodes.add(expressions().madeOut(n, false));
        boolean taken = true;
        if (a.sign == '-') {
            for (ModelTree.Node n : nodes) p.locks.computeIfPresent(n, (k, times) -> times > 1 ? times - 1 : null);
        } else {
            if (a.sign == 0) p.locks.clear();
            p.wanted = nodes;
            if (p.house.isBarred(p) && !(timed && seconds <= 0)) p.await(ModelProcess.FOR_LOCKS, timed, seconds);
            taken = !p.house.isBarred(p);
            if (taken) p.house.roomForLocks(p, nodes);
            if (taken) for (ModelTree.Node n : nodes) p.locks.merge(n, 1, Integer::sum);
        }
        p.hands.nodes -= nodes.size();
        if (timed) p.test = taken;
    }

    // ---- FOR

    private ModelProcess.End loop(ModelProcess.Level l, List<ModelText.Command> commands, int at) {
        p.hands.loop();
        ModelProcess.Loop loop = new ModelProcess.Loop();
        l.loops.add(loop);
        ModelText.Command c = commands.get(at);
        ModelProcess.End end = ModelProcess.End.LINE;
        if (c.arguments.isEmpty()) {
            while (end == ModelProcess.End.LINE) end = round(l, commands, at, loop);
        }
        for (ModelText.Argument range : c.arguments) {
            if (end == ModelProcess.End.LINE) end = range(l, commands, at, loop, range);
        }
        p.hands.loops--;
        l.loops.remove(loop);
        return end == ModelProcess.End.LOOP ? ModelProcess.End.LINE : end;
    }

    private ModelProcess.End range(ModelProcess.Level l, List<ModelText.Command> commands, int at, ModelProcess.Loop loop, ModelText.Argument range) {
        ModelTree.Node name = new ModelTree.Node(false, commands.get(at).name);
        if (range.step == null) {
            store(name, expressions().value(range.value));
            return round(l, commands, at, loop);
        }
        String first = expressions().inHand(range.value), more = expressions().inHand(range.step);
        String last = range.limit == null ? null : expressions().inHand(range.limit);
        BigDecimal now = ModelNumber.read(first), step = ModelNumber.read(more), limit = last == null ? null : ModelNumber.read(last);
        p.hands.strings -= last == null ? 2 : 3;
        store(name, ModelNumber.text(now));
        ModelProcess.End end = ModelProcess.End.LINE;
        while (end == ModelProcess.End.LINE && (limit == null || now.compareTo(limit) * (step.signum() < 0 ? -1 : 1) <= 0)) {
            store(name, ModelNumber.text(now));
            end = round(l, commands, at, loop);
            if (end != ModelProcess.End.LINE) break;
            String is = expressions().tree(name).get(name.subscripts);
            if (is == null) throw new ModelError("M15");
            now = ModelNumber.fitted(ModelNumber.read(is).add(step));
        }
        return end;
    }

    private ModelProcess.End round(ModelProcess.Level l, List<ModelText.Command> commands, int at, ModelProcess.Loop loop) {
        p.begin();
        ModelHands hands = p.hands.copy();
        for (int from = at + 1;;) {
            try {
                return run(l, commands, from, loop);
            } catch (ModelProcess.Restart r) {
                if (r.transaction.level != l || r.transaction.innermost() != loop) throw r;
                p.hands.set(hands);
                while (l.loops.get(l.loops.size() - 1) != loop) l.loops.remove(l.loops.size() - 1);
                from = r.transaction.from();
                r.transaction.bringBack(p.locals);
            }
        }
    }

    // ---- transactions

    private void begin(ModelProcess.Level l, List<ModelText.Command> commands, int at) {
        List<ModelText.Argument> all = commands.get(at).arguments;
        if (p.transaction == null) {
            ModelTransaction t = new ModelTransaction(p.house, l, commands, at);
            t.restartable = !all.isEmpty();
            if (t.restartable) t.keep(p.locals, all.get(0).star ? p.locals.withData() : all.get(0).names);
            p.transaction = t;
        }
        p.transactionLevel += Math.max(1, all.size());
    }

    private void needTransaction() {
        if (p.transaction == null) throw new ModelError("Z5");
    }

    private void endTransaction() {
        p.transaction = null;
        p.transactionLevel = 0;
        p.restarts = 0;
    }

    private void restart() {
        ModelTransaction t = p.transaction;
        int restarts = p.restarts;
        endTransaction();
        if (!t.canGoBack(p)) throw new ModelError("Z6");
        p.restarts = restarts + 1;
        p.house.restarts++;
        throw new ModelProcess.Restart(t);
    }

    private void commit() {
        needTransaction();
        if (p.transactionLevel > 1) {
            p.transactionLevel--;
            return;
        }
        if (p.transaction.isInConflict()) {
            p.house.conflicts++;
            restart();
        }
        p.transaction.commit();
        p.house.commits++;
        endTransaction();
    }
}

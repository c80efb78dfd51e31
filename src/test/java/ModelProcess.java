import java.util.ArrayList;
import java.util.List;
import java.util.TreeMap;
import java.util.concurrent.Semaphore;

/** Part 8: a process, which is a thread that goes on only while it has the turn. Parts 5 to 7: its levels and lines. */
final class ModelProcess {
    static final int RUNNING = 0, FOR_LOCKS = 1, FOR_TIME = 2, FOR_LINE = 3, OVER = 4, FAILED = 5;

    /** How a row of commands ended. */
    enum End { LINE, LEVEL, GOTO, LOOP }

    static final class Loop {
    }

    static final class Level {
        boolean block;
        boolean extrinsic;
        String trap = "";
        /** In its trap; and in that one's line itself. */
        boolean trapped;
        boolean inTrapLine;
        /** Where it is: in a text, or in a line of a routine. */
        String text;
        ModelText.Routine routine;
        int line;
        List<ModelText.Command> commands;
        int from;
        /** The level of its lines. */
        int own = 1;
        int hidden;
        boolean test;
        ModelHands hands;
        final List<Loop> loops = new ArrayList<>();
        String value;

        int lineLevel() {
            return text != null ? 1 : routine.lines.get(line).level;
        }

        void to(ModelText.Routine r, int l) {
            text = null;
            inTrapLine = false;
            routine = r;
            line = l;
            commands = r.lines.get(l).commands;
            from = 0;
        }
    }

    private static final class Halted extends RuntimeException {
        Halted() {
            super("HALT", null, false, false);
        }
    }

    private static final class Killed extends Error {
        private static final long serialVersionUID = 1;
    }

    /** Goes back to a transaction's TSTART. */
    static final class Restart extends RuntimeException {
        final transient ModelTransaction transaction;

        Restart(ModelTransaction t) {
            super("restart", null, false, false);
            transaction = t;
        }
    }

    final Model house;
    final int number;
    final List<Level> levels = new ArrayList<>();
    final ModelLocals locals = new ModelLocals();
    final ModelHands hands = new ModelHands();
    final List<String> told = new ArrayList<>();
    final StringBuilder written = new StringBuilder();
    final TreeMap<ModelTree.Node, Integer> locks = new TreeMap<>(Model.LOCKS);
    final ModelExpressions expressions = new ModelExpressions(this);
    final ModelCommands commands = new ModelCommands(this);
    List<ModelTree.Node> wanted;
    ModelTree.Node naked;
    ModelTransaction transaction;
    int state = RUNNING;
    boolean test;
    int transactionLevel;
    int restarts;
    int x;
    int y;
    int begun;
    String code = "";
    long stream;
    private long deadline;
    private Thread thread;
    private final Semaphore turn = new Semaphore(0);
    private boolean first = true;
    private volatile boolean killed;

    ModelProcess(Model house, int number, Level lowest) {
        this.house = house;
        this.number = number;
        stream = number;
        levels.add(lowest);
    }

    boolean isOver() {
        return state >= OVER;
    }

    Level top() {
        return levels.get(levels.size() - 1);
    }

    // ---- turns

    void start() {
        thread = new Thread(null, this::live, "process " + number, 16 << 20);
        thread.setDaemon(true);
        thread.start();
    }

    private void live() {
        try {
            waitForTurn();
            run(levels.get(0));
            end(OVER);
        } catch (ModelError e) {
            end(FAILED);
        } catch (Halted e) {
            end(OVER);
        } catch (Killed e) {
            return;
        } catch (RuntimeException e) {
            house.broken = e;
        }
        house.turnIsOver.release();
    }

    private void waitForTurn() {
        turn.acquireUninterruptibly();
        if (killed) throw new Killed();
    }

    private void pause() {
        house.turnIsOver.release();
        waitForTurn();
    }

    /** A command or a round begins: with it a turn. */
    void begin() {
        if (first) first = false;
        else pause();
        begun++;
    }

    void await(int what, boolean timed, long seconds) {
        state = what;
        deadline = timed ? house.second + seconds : Long.MAX_VALUE;
        pause();
        state = RUNNING;
    }

    boolean isReady() {
        return house.second >= deadline || state == FOR_LINE && !told.isEmpty() || state == FOR_LOCKS && !house.isBarred(this);
    }

    void goOn() {
        turn.release();
        house.turnIsOver.acquireUninterruptibly();
    }

    void kill() {
        if (isOver()) return;
        killed = true;
        turn.release();
        try {
            thread.join();
        } catch (InterruptedException e) {
            throw new IllegalStateException(e);
        }
        end(OVER);
    }

    void halt() {
        throw new Halted();
    }

    private void end(int how) {
        state = how;
        levels.clear();
        locals.clear();
        locks.clear();
        told.clear();
        transaction = null;
        transactionLevel = 0;
        restarts = 0;
    }

    // ---- levels

    /** One level more, till it is over: the value of an extrinsic's. */
    String enter(Level l) {
        l.hidden = locals.hiddenEntries();
        l.test = test;
        levels.add(l);
        return run(l);
    }

    void roomForLevel() {
        if (levels.size() >= 30) throw new ModelError("Z1");
    }

    private void leave(Level l) {
        locals.unhide(l.hidden);
        if (l.block || l.extrinsic) test = l.test;
        levels.remove(levels.size() - 1);
    }

    private void giveUp(Level l) {
        hands.set(l.hands);
        l.loops.clear();
    }

    private String run(Level l) {
        l.hands = hands.copy();
        for (boolean goesOn = true; goesOn;) {
            try {
                if (l.commands == null) throw new ModelError("Z3");
                End end = commands.run(l, l.commands, l.from, null);
                goesOn = end == End.GOTO || end == End.LINE && nextLine(l);
                if (!goesOn && l.extrinsic && l.value == null && !l.trapped) throw new ModelError("M17");
            } catch (ModelError e) {
                add(e.code);
                giveUp(l);
                goesOn = beginTrap(l);
                if (!goesOn) {
                    leave(l);
                    throw new ModelError(null);
                }
            } catch (Restart r) {
                giveUp(l);
                if (r.transaction.level != l) {
                    leave(l);
                    throw r;
                }
                r.transaction.goBack(l);
                r.transaction.bringBack(locals);
            }
        }
        leave(l);
        if (l.trapped && !code.isEmpty()) throw new ModelError(null);
        return l.trapped || l.value == null ? "" : l.value;
    }

    private void add(String more) {
        if (more == null) return;
        String now = (code.isEmpty() ? "," : code) + more + ",";
        if (now.length() <= 250) code = now;
    }

    private static boolean beginTrap(Level l) {
        if (l.trap.isEmpty() || l.trapped) return false;
        l.trapped = true;
        l.inTrapLine = true;
        l.text = l.trap;
        l.routine = null;
        l.commands = ModelText.commands(l.trap);
        l.from = 0;
        return true;
    }

    private static boolean nextLine(Level l) {
        if (l.text != null) return false;
        for (int i = l.line + 1; i < l.routine.lines.size(); i++) {
            int level = l.routine.lines.get(i).level;
            if (level < l.own) return false;
            if (level == l.own) {
                l.to(l.routine, i);
                return true;
            }
        }
        return false;
    }

    // ---- entries

    /** The line of an entry; null if there is none. */
    Level find(ModelText.Entry e, long plus) {
        Level top = top();
        ModelText.Routine r = e.routine != null ? house.routines.get(e.routine) : top.text != null ? null : top.routine;
        if (r == null) return null;
        long line = e.label == null ? e.plus == null ? 0 : plus - 1 : lineOf(r, e.label);
        if (line < 0) return null;
        if (e.label != null) line += plus;
        if (line >= r.lines.size()) return null;
        Level l = new Level();
        l.to(r, (int) line);
        return l;
    }

    private static int lineOf(ModelText.Routine r, String label) {
        for (int i = 0; i < r.lines.size(); i++) if (label.equals(r.lines.get(i).label)) return i;
        return -1;
    }

    long plus(ModelText.Entry e) {
        long n = e.plus == null ? 0 : ModelNumber.whole(expressions.value(e.plus));
        if (n < 0) throw new ModelError("Z4");
        return n;
    }

    Level located(ModelText.Entry e) {
        Level l = find(e, plus(e));
        if (l == null) throw new ModelError("M13");
        return l;
    }

    /** DO, JOB or an extrinsic. */
    String call(ModelText.Entry e, boolean extrinsic, boolean job) {
        List<String> values = new ArrayList<>();
        List<ModelText.Actual> actuals = e.actuals == null ? List.of() : e.actuals;
        for (ModelText.Actual a : actuals) values.add(a.value != null ? expressions.inHand(a.value) : hands.string(null));
        Level l = located(e);
        List<String> formals = l.routine.lines.get(l.line).formals;
        if (e.actuals != null && (formals == null || actuals.size() > formals.size())) throw new ModelError("M58");
        if (e.actuals == null) formals = List.of();
        long more = values.stream().filter(v -> v != null).count();
        l.extrinsic = extrinsic;
        if (job) {
            house.roomForProcess();
            house.roomForLocals(more);
            hands.strings -= actuals.size();
            house.add(l).bind(l, formals, actuals, values, null);
            return "";
        }
        roomForLevel();
        locals.roomToHide(formals.size());
        house.roomForLocals(more);
        hands.strings -= actuals.size();
        List<ModelLocals.Local> linked = new ArrayList<>();
        for (ModelText.Actual a : actuals) linked.add(a.name == null ? null : locals.of(a.name));
        l.test = test;
        l.hidden = locals.hiddenEntries();
        bind(l, formals, actuals, values, linked);
        levels.add(l);
        return run(l);
    }

    private void bind(Level l, List<String> formals, List<ModelText.Actual> actuals, List<String> values, List<ModelLocals.Local> linked) {
        for (int i = 0; i < formals.size(); i++) {
            locals.hide(formals.get(i));
            if (i >= actuals.size()) continue;
            if (values.get(i) != null) locals.of(formals.get(i)).values.put(List.of(), values.get(i));
            else if (linked != null && linked.get(i) != null) locals.link(formals.get(i), linked.get(i));
        }
    }
}

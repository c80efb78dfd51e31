import java.util.ArrayList;
import java.util.Comparator;
import java.util.HashMap;
import java.util.List;
import java.util.Map;
import java.util.Set;
import java.util.TreeMap;
import java.util.TreeSet;
import java.util.concurrent.Semaphore;

/** A second reading of the document, with threads, exceptions and the whole library: what MumpsHouse is held against. */
final class Model {
    static final int NONE = -1, BAD = -2, STATE = -3, FULL = -4, DOWN = -5, LOST = -6;
    static final Comparator<ModelTree.Node> LOCKS = Comparator.comparing((ModelTree.Node n) -> n.global)
        .thenComparing(n -> n.name).thenComparing(n -> n.subscripts, ModelTree.ORDER);
    private static final int BLOCKS = 400, LOAD = 248;

    final Semaphore turnIsOver = new Semaphore(0);
    RuntimeException broken;
    final TreeMap<String, ModelText.Routine> routines = new TreeMap<>();
    private final TreeMap<String, ModelTree> globals = new TreeMap<>();
    private final Map<String, Integer> versions = new HashMap<>();
    private final List<ModelProcess> processes = new ArrayList<>();
    private final StringBuilder tape = new StringBuilder();
    private String result = "";
    private long x;
    int second;
    private int turns;
    private int idle;
    int restarts;
    int conflicts;
    int commits;
    private boolean down;
    private final byte[][] blocks = new byte[BLOCKS + 1][256];
    private int used;
    private int torn;
    private int cutAt = NONE;
    private int tear;
    private final List<String> waiting = new ArrayList<>();

    static long next(long stream) {
        return stream * 6364136223846793005L + 1442695040888963407L;
    }

    static boolean isSameOrBelow(ModelTree.Node a, ModelTree.Node of) {
        return a.subscripts.equals(of.subscripts) || ModelTree.isBelow(a.subscripts, of.subscripts);
    }

    static String beside(TreeSet<String> names, ModelTree.Node n, int direction) {
        String s = direction > 0 ? names.higher(n.name) : names.lower(n.name);
        return s == null ? "" : n.global ? "^" + s : s;
    }

    /** All its processes' threads end. */
    void dispose() {
        for (ModelProcess p : processes) p.kill();
    }

    // ---- room

    private int globalValues() {
        int n = globals.values().stream().mapToInt(ModelTree::size).sum();
        for (ModelProcess p : processes) if (p.transaction != null) n += p.transaction.values();
        return n;
    }

    private int localValues() {
        int n = 0;
        for (ModelProcess p : processes) n += p.locals.values() + (p.transaction == null ? 0 : p.transaction.keptValues());
        return n;
    }

    private static void need(boolean room) {
        if (!room) throw new ModelError("Z1");
    }

    void roomForGlobals(int more) {
        need(more == 0 || globalValues() + more <= 800);
    }

    void roomForLocals(long more) {
        need(more == 0 || localValues() + more <= 500);
    }

    void roomForProcess() {
        need(hasRoomForProcess());
    }

    private boolean hasRoomForProcess() {
        return living() < 6 && processes.size() < 24;
    }

    void roomForLocks(ModelProcess p, List<ModelTree.Node> more) {
        Set<ModelTree.Node> fresh = new TreeSet<>(LOCKS);
        for (ModelTree.Node n : more) if (!p.locks.containsKey(n)) fresh.add(n);
        need(lockCount() + fresh.size() <= 60);
    }

    private boolean hasRoom(int bytes) {
        return (waitingBytes() + bytes + LOAD - 1) / LOAD <= BLOCKS - used;
    }

    // ---- globals

    ModelTree tree(String name) {
        return globals.computeIfAbsent(name, n -> new ModelTree());
    }

    Set<String> globalNames(ModelTransaction t) {
        Set<String> names = new TreeSet<>();
        for (Map.Entry<String, ModelTree> e : globals.entrySet()) {
            ModelTree seen = t != null && t.names().contains(e.getKey()) ? t.tree(e.getKey()) : e.getValue();
            if (!seen.isEmpty()) names.add(e.getKey());
        }
        return names;
    }

    int version(String name) {
        return versions.getOrDefault(name, 0);
    }

    void change(String name) {
        versions.merge(name, 1, Integer::sum);
    }

    void replace(String name, ModelTree by) {
        globals.put(name, by);
        change(name);
    }

    void unit(String records) {
        need(hasRoom(records.length() + 1));
        waiting.add(records + '\0');
    }

    private static String nodeRecord(ModelTree.Node n) {
        StringBuilder b = new StringBuilder().append((char) n.subscripts.size()).append((char) n.name.length()).append(n.name);
        for (String s : n.subscripts) b.append((char) s.length()).append(s);
        return b.toString();
    }

    static String setRecord(ModelTree.Node n, String value) {
        return (char) 1 + nodeRecord(n) + (char) value.length() + value;
    }

    static String killRecord(ModelTree.Node n) {
        return (char) 2 + nodeRecord(n);
    }

    private static String routineRecord(String name, String text) {
        return "" + (char) 3 + (char) name.length() + name + (char) (text.length() >> 8) + (char) (text.length() & 255) + text;
    }

    // ---- the tape

    int feed(int a, int b, int c, int d, int e) {
        if (tape.length() + 20 > 4000) return FULL;
        for (int n : new int[] {a, b, c, d, e}) for (int i = 24; i >= 0; i -= 8) tape.append((char) (n >>> i & 255));
        return tape.length();
    }

    int end(int n) {
        if (n < 0 || n > tape.length()) return NONE;
        tape.setLength(n);
        return n;
    }

    private String usedTape() {
        String s = tape.toString();
        tape.setLength(0);
        return s;
    }

    // ---- routines, processes

    int save(int n) {
        if (down) return DOWN;
        String s = usedTape();
        if (n < 1 || n > 8 || n > s.length()) return NONE;
        String name = s.substring(0, n), text = s.substring(n);
        if (!ModelText.isName(name) || text.length() > 3000) return BAD;
        ModelText.Routine r;
        try {
            r = ModelText.routine(name, text);
        } catch (ModelText.Fault f) {
            return -10 - f.place;
        }
        if (isInUse(name)) return STATE;
        String record = routineRecord(name, text);
        if (!routines.containsKey(name) && routines.size() >= 16 || !hasRoom(record.length() + 1)) return FULL;
        unit(record);
        routines.put(name, r);
        return r.lines.size();
    }

    private boolean isInUse(String routine) {
        for (ModelProcess p : processes) {
            for (ModelProcess.Level l : p.levels) if (l.text == null && l.routine.name.equals(routine)) return true;
            ModelTransaction t = p.transaction;
            if (t != null && p.levels.contains(t.level) && t.text == null && t.routine.name.equals(routine)) return true;
        }
        return false;
    }

    int process() {
        if (down) return DOWN;
        ModelProcess.Level l = new ModelProcess.Level();
        l.text = usedTape();
        l.commands = ModelText.commands(l.text);
        if (l.text.length() > 250 || l.commands == null) return BAD;
        if (!hasRoomForProcess()) return FULL;
        return add(l).number;
    }

    ModelProcess add(ModelProcess.Level lowest) {
        ModelProcess p = new ModelProcess(this, processes.size(), lowest);
        processes.add(p);
        p.start();
        return p;
    }

    private ModelProcess at(int process) {
        return process < 0 || process >= processes.size() ? null : processes.get(process);
    }

    private ModelProcess living(int process) {
        ModelProcess p = at(process);
        return p == null || p.isOver() ? null : p;
    }

    private int living() {
        return (int) processes.stream().filter(p -> !p.isOver()).count();
    }

    int tell(int process) {
        if (down) return DOWN;
        String line = usedTape();
        ModelProcess p = living(process);
        if (p == null) return NONE;
        if (line.length() > 250) return BAD;
        if (p.told.size() >= 20) return FULL;
        p.told.add(line);
        return p.told.size();
    }

    int time(int now) {
        if (down) return DOWN;
        if (now < second || now > 2000000000) return NONE;
        int later = now - second;
        second = now;
        return later;
    }

    int seed(long seed) {
        if (down) return DOWN;
        x = seed;
        return 1;
    }

    int turns(int n) {
        if (down) return DOWN;
        if (n < 1 || n > 400) return NONE;
        int done = 0;
        for (int i = 0; i < n && living() > 0; i++) {
            x = next(x);
            int place = (int) ((x >>> 33) % living());
            ModelProcess p = processes.stream().filter(q -> !q.isOver()).skip(place).findFirst().orElseThrow();
            turns++;
            if (p.state != ModelProcess.RUNNING && !p.isReady()) {
                idle++;
                continue;
            }
            done++;
            p.goOn();
            if (broken != null) throw broken;
        }
        return done;
    }

    int halt(int process) {
        if (down) return DOWN;
        ModelProcess p = at(process);
        if (p == null) return NONE;
        if (p.isOver()) return STATE;
        int levels = p.levels.size();
        p.kill();
        return levels;
    }

    int state(int process, int what) {
        if (down) return DOWN;
        ModelProcess p = at(process);
        if (p == null) return NONE;
        return switch (what) {
            case 0 -> p.state;
            case 1 -> p.levels.size();
            case 2 -> p.test ? 1 : 0;
            case 3 -> p.transactionLevel;
            case 4 -> p.restarts;
            case 5 -> p.x;
            case 6 -> p.y;
            case 7 -> p.told.size();
            case 8 -> p.written.length();
            case 9 -> p.begun;
            case 10 -> p.locks.size();
            case 11 -> p.locals.seenValues();
            default -> NONE;
        };
    }

    int written(int process, int i) {
        if (down) return DOWN;
        ModelProcess p = at(process);
        return p == null || i < 0 || i >= p.written.length() ? NONE : p.written.charAt(i);
    }

    int take(int process) {
        if (down) return DOWN;
        ModelProcess p = at(process);
        if (p == null) return NONE;
        int n = p.written.length();
        p.written.setLength(0);
        return n;
    }

    private int answer(String s) {
        result = s;
        return s.length();
    }

    int code(int process) {
        if (down) return DOWN;
        ModelProcess p = at(process);
        return p == null ? NONE : answer(p.code);
    }

    int level(int process, int k, int what) {
        if (down) return DOWN;
        ModelProcess p = living(process);
        if (p == null || k < 0 || k >= p.levels.size()) return NONE;
        ModelProcess.Level l = p.levels.get(k);
        boolean text = l.text != null;
        return switch (what) {
            case 0 -> answer(text ? l.text : l.routine.lines.get(l.line).text);
            case 1 -> text ? 1 : l.line + 1;
            case 2 -> answer(text ? "" : l.routine.name);
            default -> NONE;
        };
    }

    // ---- nodes

    int look(int process, int what) {
        if (down) return DOWN;
        String text = usedTape();
        boolean global = text.startsWith("^");
        ModelProcess p = living(process);
        if (what < 0 || what > 4 || !global && p == null) return NONE;
        ModelTree.Node n = ModelTree.Node.of(text, what >= 1 && what <= 3);
        if (n == null) return BAD;
        ModelTree t = global ? tree(n.name) : p.locals.of(n.name).values;
        if (what == 4) return t.data(n.subscripts);
        if (what == 0) return t.containsKey(n.subscripts) ? answer(t.get(n.subscripts)) : NONE;
        if (what == 3) {
            List<String> next = t.higherKey(n.subscripts);
            return answer(next == null ? "" : new ModelTree.Node(global, n.name, next).text());
        }
        int direction = what == 1 ? 1 : -1;
        if (!n.subscripts.isEmpty()) return answer(t.beside(n.subscripts, direction));
        return answer(beside(new TreeSet<>(global ? globalNames(null) : p.locals.withData()), n, direction));
    }

    int result(int i) {
        return i < 0 || i >= result.length() ? NONE : result.charAt(i);
    }

    private int lockCount() {
        return processes.stream().mapToInt(p -> p.locks.size()).sum();
    }

    boolean isBarred(ModelProcess p) {
        for (ModelTree.Node wanted : p.wanted) {
            for (ModelProcess q : processes) {
                for (ModelTree.Node held : q.locks.keySet()) if (q != p && areInEachOther(wanted, held)) return true;
            }
        }
        return false;
    }

    private static boolean areInEachOther(ModelTree.Node a, ModelTree.Node b) {
        return a.global == b.global && a.name.equals(b.name) && (isSameOrBelow(a, b) || isSameOrBelow(b, a));
    }

    int lock(int i, int what) {
        if (down) return DOWN;
        int k = i;
        for (ModelProcess p : processes) {
            for (Map.Entry<ModelTree.Node, Integer> e : p.locks.entrySet()) {
                if (k-- != 0) continue;
                return what == 0 ? p.number : what == 1 ? e.getValue() : what == 2 ? answer(e.getKey().text()) : NONE;
            }
        }
        return NONE;
    }

    int count(int what) {
        if (down) return DOWN;
        return switch (what) {
            case 0 -> routines.size();
            case 1 -> globalValues();
            case 2 -> localValues();
            case 3 -> processes.size();
            case 4 -> living();
            case 5 -> lockCount();
            case 6 -> turns;
            case 7 -> idle;
            case 8 -> restarts;
            case 9 -> conflicts;
            case 10 -> commits;
            case 11 -> used;
            case 12 -> waiting.size();
            case 13 -> waitingBytes();
            case 14 -> second;
            default -> NONE;
        };
    }

    int sound() {
        return down ? DOWN : 1;
    }

    // ---- the disk

    private int waitingBytes() {
        return waiting.stream().mapToInt(String::length).sum();
    }

    private static void putSum(byte[] block) {
        int s = sum(block);
        for (int i = 0; i < 4; i++) block[252 + i] = (byte) (s >>> 24 - 8 * i);
    }

    private static int sum(byte[] block) {
        int s = 0;
        for (int i = 0; i < 252; i++) s = Integer.rotateLeft(s ^ block[i] & 255, 9) * 0x9E3779B1;
        return s;
    }

    int sync() {
        if (down) return DOWN;
        String all = String.join("", waiting);
        int n = (all.length() + LOAD - 1) / LOAD;
        for (int i = 0; i < n; i++) {
            int number = used + 1 + i;
            byte[] block = block(number, all.substring(LOAD * i, Math.min(LOAD * (i + 1), all.length())), i == n - 1);
            boolean cut = cutAt-- == 0;
            System.arraycopy(block, 0, blocks[number], 0, cut ? tear : 256);
            if (cut) return lost(number);
            if (cutAt < NONE) cutAt = NONE;
            if (torn == number) torn = 0;
        }
        used += n;
        waiting.clear();
        return n;
    }

    private static byte[] block(int number, String load, boolean last) {
        byte[] block = new byte[256];
        block[0] = (byte) (number >> 8);
        block[1] = (byte) number;
        block[2] = (byte) (last ? 1 : 0);
        block[3] = (byte) load.length();
        for (int i = 0; i < load.length(); i++) block[4 + i] = (byte) load.charAt(i);
        putSum(block);
        return block;
    }

    private int lost(int number) {
        torn = number;
        down = true;
        dispose();
        return LOST;
    }

    int cut(int n, int bytes) {
        if (down) return DOWN;
        if (n < -1 || n > 2000 || bytes < 0 || bytes > 255) return NONE;
        cutAt = n;
        tear = bytes;
        return 1;
    }

    private boolean isRight(int number) {
        byte[] block = blocks[number].clone();
        putSum(block);
        int n = block[3] & 255;
        boolean told = ((block[0] & 255) << 8 | block[1] & 255) == number && (block[2] == 0 && n == LOAD || block[2] == 1 && n >= 1 && n <= LOAD);
        return number != torn && told && java.util.Arrays.equals(block, blocks[number]);
    }

    int start() {
        if (!down) return STATE;
        used = 0;
        for (int i = 1; i <= BLOCKS && isRight(i); i++) if (blocks[i][2] == 1) used = i;
        for (int i = used + 1; i <= BLOCKS; i++) blocks[i] = new byte[256];
        torn = 0;
        cutAt = NONE;
        down = false;
        routines.clear();
        globals.clear();
        versions.clear();
        processes.clear();
        waiting.clear();
        turns = idle = restarts = conflicts = commits = 0;
        int units = 0;
        StringBuilder load = new StringBuilder();
        for (int i = 1; i <= used; i++) {
            for (int k = 0; k < (blocks[i][3] & 255); k++) load.append((char) (blocks[i][4 + k] & 255));
            if (blocks[i][2] == 0) continue;
            units += new ModelUnits(this, load.toString()).redo();
            load.setLength(0);
        }
        return units;
    }

    /** A record that is done again. */
    void redo(ModelUnits.Rec r) {
        if (r.routine != null) routines.put(r.routine.name, r.routine);
        else if (r.value == null) tree(r.node.name).kill(r.node.subscripts);
        else if (tree(r.node.name).containsKey(r.node.subscripts) || globalValues() < 800) tree(r.node.name).put(r.node.subscripts, r.value);
    }

    int octet(int block, int i) {
        return block < 1 || block > BLOCKS || i < 0 || i > 255 ? NONE : blocks[block][i] & 255;
    }

    int poke(int block, int i, int mask) {
        if (octet(block, i) == NONE) return NONE;
        blocks[block][i] ^= (byte) mask;
        return octet(block, i);
    }

    int verify() {
        if (down) return DOWN;
        for (int i = 1; i <= used; i++) if (!isRight(i)) return i;
        return NONE;
    }
}

/** A house for routines in the manner of MUMPS: the document ../shared/DOC.md says what it does. */
public final class MumpsHouse {
    public static final int NONE = -1, BAD = -2, STATE = -3, FULL = -4, DOWN = -5, LOST = -6;

    private static final int LONGEST = 250, MOST_TEXT = 3000, MOST_TAPE = 4000, MOST_LINES = 100, MOST_OPEN = 15;
    private static final int MOST_LIST = 20, MOST_SUBSCRIPTS = 6, LONGEST_SUBSCRIPT = 60, GREATEST_NODE = 100;
    private static final int MOST_GLOBALS = 800, MOST_LOCALS = 500, MOST_ROUTINES = 16, LONGEST_NAME = 8;
    private static final int MOST_PROCESSES = 24, MOST_LIVING = 6, MOST_TOLD = 20, MOST_WRITTEN = 2000;
    private static final int MOST_LEVELS = 30, MOST_LOOPS = 40, MOST_HIDDEN = 300, MOST_AT = 24;
    private static final int MOST_STRINGS = 60, MOST_NODES = 40, MOST_LOCKS = 60, MOST_COPIES = 20, MOST_LOG = 8000;
    private static final int BLOCKS = 400, BLOCK = 256, LOAD = 248, SUMMED = 252;
    private static final int GREATEST_WHOLE = 2000000000, MILLION = 1000000, DAY = 86400, MOST_TURNS = 400, GREATEST_CUT = 2000;
    /** A local without a value needs a cell only while two names are one, which hides one of them at least. */
    private static final int MOST_CELLS = 4200, MOST_NAMES = 1500;

    private static final int LOWEST = -30;
    private static final long BILLION = 1000000000L, NEVER = 1L << 62;
    private static final long[] POWERS = {1L, 10L, 100L, 1000L, 10000L, 100000L, 1000000L, 10000000L, 100000000L,
        1000000000L, 10000000000L, 100000000000L, 1000000000000L, 10000000000000L, 100000000000000L,
        1000000000000000L, 10000000000000000L, 100000000000000000L, 1000000000000000000L};

    // Errors: of M.. the number, of Z.. the number and ERROR_Z; AGAIN adds no code.
    private static final int ERROR_Z = 1000, NO_ROOM = ERROR_Z + 1, BAD_NODE = ERROR_Z + 2, BAD_TEXT = ERROR_Z + 3,
        BELOW_ZERO = ERROR_Z + 4, NO_TRANSACTION = ERROR_Z + 5, NO_RESTART = ERROR_Z + 6, AGAIN = 9999, TOO_GREAT = 92,
        TOO_LONG = 75, BY_ZERO = 9, NO_ENTRY = 13, BAD_ACTUALS = 58;

    // The words of the code that a text is made into: for expressions,
    private static final int STRING = 0, NUMBER = 1, SIGN = 2, OPERATE = 3, MATCH = 4, MATCH_AT = 5, LOCAL = 6, GLOBAL = 7,
        NAKED = 8, AT_REF = 9, EXTEND = 10, VALUE = 11, JUMP = 12, JUMP_FALSE = 13, JUMP_TRUE = 14, NO_CHOICE = 15,
        ACTUAL_NAME = 16, ACTUAL_NONE = 17, SPECIAL = 18, NO_OP = 19, EMPTY = 20, GET = 21, FUNCTION = 22,
        NODE_FUNCTION = 23, LAST_OF_EXPRESSIONS = 29;
    // for entries of routines,
    private static final int DO = 30, GOTO = 31, JOB = 32, EXTRINSIC = 33, TEXT_OF = 34, LAST_OF_ENTRIES = 39;
    // for how lines and levels go on,
    private static final int COMMAND = 40, ROUND = 41, LINE_END = 42, AT_END = 43, QUIT = 44, QUIT_WITH = 45, DO_BLOCK = 46,
        ELSE = 47, IF = 48, FOR = 49, FOR_ALL = 50, RANGE = 51, FOR_END = 52, HALT = 53, HANG = 54, XECUTE = 55,
        ARGUMENTS = 56, TSTART = 57, TCOMMIT = 58, TRESTART = 59, TROLLBACK = 60, LAST_OF_FLOW = 69;
    // for nodes and what is written.
    private static final int KILL = 70, KILL_ALL = 71, KILL_BUT = 72, LOCK = 73, LOCK_NONE = 74, MERGE = 75, NEW = 76,
        NEW_ALL = 77, NEW_BUT = 78, READ = 79, SET_TO = 80, SET_END = 81, WRITE = 82, WRITE_BYTE = 83, WRITE_LINE = 84,
        WRITE_TAB = 85;

    // Each word short and whole, in the order of the numbers behind.
    private static final String COMMANDS = "B BREAK D DO E ELSE F FOR G GOTO H H HALT HALT HANG HANG I IF J JOB K KILL L LOCK M MERGE N NEW Q QUIT R READ S SET TC TCOMMIT TRE TRESTART TRO TROLLBACK TS TSTART W WRITE X XECUTE ";
    private static final int C_BREAK = 0, C_DO = 1, C_ELSE = 2, C_FOR = 3, C_GOTO = 4, C_H = 5, C_HALT = 6, C_HANG = 7,
        C_IF = 8, C_JOB = 9, C_KILL = 10, C_LOCK = 11, C_MERGE = 12, C_NEW = 13, C_QUIT = 14, C_READ = 15, C_SET = 16,
        C_TCOMMIT = 17, C_TRESTART = 18, C_TROLLBACK = 19, C_TSTART = 20, C_WRITE = 21, C_XECUTE = 22;
    private static final String FUNCTIONS = "A ASCII C CHAR D DATA E EXTRACT F FIND FN FNUMBER G GET J JUSTIFY L LENGTH NA NAME O ORDER P PIECE QL QLENGTH QS QSUBSCRIPT Q QUERY R RANDOM RE REVERSE S SELECT T TEXT TR TRANSLATE ";
    private static final int F_ASCII = 0, F_CHAR = 1, F_DATA = 2, F_EXTRACT = 3, F_FIND = 4, F_FNUMBER = 5, F_GET = 6,
        F_JUSTIFY = 7, F_LENGTH = 8, F_NAME = 9, F_ORDER = 10, F_PIECE = 11, F_QLENGTH = 12, F_QSUBSCRIPT = 13,
        F_QUERY = 14, F_RANDOM = 15, F_REVERSE = 16, F_SELECT = 17, F_TEXT = 18, F_TRANSLATE = 19;
    /** The fewest and the most arguments of each function that has expressions alone, behind its REF for the others. */
    private static final int[] FEWEST = {1, 1, 0, 1, 2, 2, 0, 2, 1, 0, 0, 2, 1, 2, 0, 1, 1, 0, 0, 2};
    private static final int[] MOST = {2, 20, 0, 3, 3, 2, 1, 3, 2, 1, 1, 4, 1, 2, 0, 1, 1, 0, 0, 3};
    private static final String SPECIALS = "EC ECODE ET ETRAP H HOROLOG J JOB Q QUIT ST STACK T TEST TL TLEVEL TR TRESTART X X Y Y ";
    private static final int S_ECODE = 0, S_ETRAP = 1, S_HOROLOG = 2, S_JOB = 3, S_QUIT = 4, S_STACK = 5, S_TEST = 6,
        S_TLEVEL = 7, S_TRESTART = 8, S_X = 9, S_Y = 10;
    private static final String TARGETS = "P PIECE E EXTRACT EC ECODE ET ETRAP ";
    private static final int T_PIECE = 0, T_EXTRACT = 1, T_ECODE = 2, T_ETRAP = 3, T_NODE = 4;
    private static final String OPERATORS = "_+-*/\\#=<>[]&!?";
    private static final int O_JOIN = 0, O_ADD = 1, O_SUBTRACT = 2, O_MULTIPLY = 3, O_DIVIDE = 4, O_WHOLE = 5, O_MODULO = 6,
        O_EQUAL = 7, O_LESS = 8, O_GREATER = 9, O_HOLDS = 10, O_BEHIND = 11, O_AND = 12, O_OR = 13, O_MATCH = 14,
        O_POWER = 15, O_SORTS = 16, NOT = 32;

    // What is read besides a routine; of arguments their command is added.
    private static final int A_LINE = 1, A_REF = 2, A_PATTERN = 3, SOME_ARGUMENTS = 10;
    // How a turn goes on.
    private static final int GOING = 0, STOPPED = 1, LINE_OVER = 2, LEVEL_OVER = 3, LEVEL_VALUED = 4, RESTARTING = 5, READING = 10;
    private static final int ENTRY_LEVEL = 0, BLOCK_LEVEL = 1, TEXT_LEVEL = 2, VALUE_LEVEL = 3;
    private static final int RUNNING = 0, FOR_LOCKS = 1, FOR_TIME = 2, FOR_LINE = 3, OVER = 4, OVER_BY_ERROR = 5;
    private static final int A_LOCAL = 0, A_GLOBAL = 1, A_NAKED = 2;
    private static final int AN_ACTUAL_NAME = 1, NO_ACTUAL = 2;
    private static final int NO_CELL = -1, KEPT_NAME = -2, ALL_HIDDEN = -3;
    private static final int TURNS = 0, IDLE = 1, RESTARTS = 2, CONFLICTS = 3, COMMITS = 4;
    // Places among the sorted: at a key or behind it, behind it, behind it and all below it.
    private static final int AT = 0, AFTER = 1, BELOW = 2;
    private static final int CHANGED_BY_OTHERS = 1, CHANGED_HERE = 2, LEVEL_GONE = 1, LOOP_GONE = 2;
    private static final int SET_RECORD = 1, KILL_RECORD = 2, ROUTINE_RECORD = 3;

    private final Row tape = new Row(MOST_TAPE);
    private final Row result = new Row(MOST_TEXT);
    private final House house = new House();
    private final Machine machine = new Machine(house);
    private final Node node = new Node();
    private final Row value = new Row(LONGEST);

    // ---- the tape

    public MumpsHouse() {
    }

    public int feed(int a, int b, int c, int d, int e) {
        if (tape.length + 20 > MOST_TAPE) return FULL;
        feedNumber(a);
        feedNumber(b);
        feedNumber(c);
        feedNumber(d);
        feedNumber(e);
        return tape.length;
    }

    private void feedNumber(int n) {
        for (int i = 24; i >= 0; i -= 8) tape.add(n >>> i);
    }

    public int end(int n) {
        if (n < 0 || n > tape.length) return NONE;
        tape.length = n;
        return n;
    }

    // ---- routines, processes

    public int save(int n) {
        if (house.down) return DOWN;
        int bytes = tape.length;
        tape.clear();
        if (n < 1 || n > LONGEST_NAME || n > bytes) return NONE;
        boolean right = beginsName(tape.bytes[0]);
        for (int i = 1; i < n; i++) right = right && goesOnName(tape.bytes[i]);
        if (!right || !house.spare.load(tape.bytes, n, bytes - n)) return BAD;
        long name = packed(tape.bytes, 0, n);
        Text text = house.spare;
        if (!readSpare()) return -10 - text.fault;
        int old = house.routineOf(name);
        if (old >= 0 && machine.inUse(house.routine(old))) return STATE;
        if (old < 0 && house.routineCount >= MOST_ROUTINES || !house.hasRoom(5 + bytes)) return FULL;
        house.waiting.add(ROUTINE_RECORD);
        house.waiting.add(n);
        house.waiting.addPart(tape.bytes, 0, n);
        house.waiting.add(bytes - n >> 8);
        house.waiting.add(bytes - n);
        house.waiting.addPart(tape.bytes, n, bytes - n);
        house.unitIsWhole();
        house.keep(name);
        return text.lines;
    }

    /** Reads the text that may become a routine: whether it has no fault. */
    private boolean readSpare() {
        Text t = house.spare;
        t.begin(true);
        for (int i = 0; i <= MOST_LINES; i++) if (!t.readLine()) break;
        if (t.at < t.length) t.failAt(t.at);
        return t.fault < 0;
    }

    public int process() {
        if (house.down) return DOWN;
        int bytes = tape.length;
        tape.clear();
        if (bytes > LONGEST || !house.spare.load(tape.bytes, 0, bytes) || !house.spare.readPiece(A_LINE)) return BAD;
        value.clear();
        value.addPart(tape.bytes, 0, bytes);
        Proc p = machine.beginProcess(value);
        if (p == null || p.work == null || p.work.text == null) return FULL;
        p.work.text.readPiece(A_LINE);
        return p.number;
    }

    public int tell(int process) {
        if (house.down) return DOWN;
        int bytes = tape.length;
        tape.clear();
        Proc p = machine.living(process);
        if (p == null || p.work == null) return NONE;
        if (bytes > LONGEST) return BAD;
        value.clear();
        value.addPart(tape.bytes, 0, bytes);
        return p.work.addTold(value) ? p.work.toldCount : FULL;
    }

    public int time(int second) {
        if (house.down) return DOWN;
        if (second < house.second || second > GREATEST_WHOLE) return NONE;
        int later = second - house.second;
        house.second = second;
        return later;
    }

    public int seed(long x) {
        if (house.down) return DOWN;
        house.x = x;
        return 1;
    }

    public int turns(int n) {
        if (house.down) return DOWN;
        if (n < 1 || n > MOST_TURNS) return NONE;
        int went = 0;
        for (int i = 0; i < n; i++) {
            int chosen = machine.choose();
            if (chosen == NONE) break;
            went += chosen;
            // texts of @ in each other make far more words than a long can count, 2 to the 204 at most: four count them
            for (long a = 0; a < NEVER && machine.phase != STOPPED; a++) {
                for (long b = 0; b < NEVER && machine.phase != STOPPED; b++) {
                    for (long c = 0; c < NEVER && machine.phase != STOPPED; c++) {
                        for (long d = 0; d < NEVER && machine.phase != STOPPED; d++) {
                            int word = machine.error == 0 && machine.phase == GOING ? machine.fetch() : NO_OP, op = word & 255;
                            if (machine.error != 0) machine.unwind();
                            else if (machine.phase >= READING) machine.readingEnded(machine.work.text.readPiece(machine.phase - READING));
                            else if (machine.phase == LINE_OVER) machine.endLine();
                            else if (machine.phase == LEVEL_OVER || machine.phase == LEVEL_VALUED) machine.endLevel(machine.phase == LEVEL_VALUED);
                            else if (machine.phase == RESTARTING) machine.restart();
                            else if (op <= LAST_OF_EXPRESSIONS) machine.expression(op, word >>> 8);
                            else if (op <= LAST_OF_ENTRIES) machine.enter(op, word >>> 8);
                            else if (op <= LAST_OF_FLOW) machine.flow(op, word >>> 8);
                            else machine.act(op, word >>> 8);
                        }
                    }
                }
            }
        }
        return went;
    }

    public int halt(int process) {
        if (house.down) return DOWN;
        Proc p = machine.proc(process);
        if (p == null) return NONE;
        if (p.work == null) return STATE;
        int levels = p.work.levelCount;
        machine.dismiss(p, OVER);
        return levels;
    }

    public int state(int process, int what) {
        if (house.down) return DOWN;
        Proc p = machine.proc(process);
        if (p == null) return NONE;
        Work w = p.work;
        switch (what) {
            case 0: return w == null ? p.status : p.wait;
            case 1: return w == null ? 0 : w.levelCount;
            case 2: return p.test;
            case 3: return p.depth;
            case 4: return p.restarts;
            case 5: return p.x;
            case 6: return p.y;
            case 7: return w == null ? 0 : w.toldCount;
            case 8: return p.out.length;
            case 9: return p.began;
            case 10: return house.locksOf(process);
            case 11: return w == null ? 0 : machine.seenValues(w.scope);
            default: return NONE;
        }
    }

    public int written(int process, int i) {
        if (house.down) return DOWN;
        Proc p = machine.proc(process);
        return p == null ? NONE : p.out.at(i);
    }

    public int take(int process) {
        if (house.down) return DOWN;
        Proc p = machine.proc(process);
        if (p == null) return NONE;
        int bytes = p.out.length;
        p.out.clear();
        return bytes;
    }

    public int code(int process) {
        if (house.down) return DOWN;
        Proc p = machine.proc(process);
        if (p == null) return NONE;
        result.copy(p.code);
        return result.length;
    }

    public int level(int process, int k, int what) {
        if (house.down) return DOWN;
        Proc p = machine.living(process);
        Level l = p == null || p.work == null ? null : p.work.levelAt(k);
        if (l == null || l.text == null || what < 0 || what > 2) return NONE;
        if (what == 1) return l.line + 1;
        result.clear();
        if (what == 0) result.addPart(l.text.bytes, l.text.startOf(l.line), l.text.lengthOf(l.line));
        else result.addName(l.text.name);
        return result.length;
    }

    // ---- nodes

    public int look(int process, int what) {
        if (house.down) return DOWN;
        boolean global = tape.at(0) == '^';
        Proc p = machine.living(process);
        boolean right = node.read(tape, value) && (what >= 1 && what <= 3 || !node.lastEmpty);
        tape.clear();
        if (what < 0 || what > 4 || p == null && !global) return NONE;
        return right ? machine.answer(node, p, what, result) : BAD;
    }

    public int result(int i) {
        return result.at(i);
    }

    public int lock(int i, int what) {
        if (house.down) return DOWN;
        Node l = what < 0 || what > 2 ? null : house.lockAt(i);
        if (l == null) return NONE;
        if (what == 0) return l.owner;
        if (what == 1) return l.times;
        result.clear();
        l.text(result, MOST_SUBSCRIPTS);
        return result.length;
    }

    public int count(int what) {
        if (house.down) return DOWN;
        switch (what) {
            case 0: return house.routineCount;
            case 1: return house.globals.count;
            case 2: return machine.locals.count;
            case 3: return machine.procCount;
            case 4: return machine.livingCount();
            case 5: return house.lockCount;
            case 6: return house.counts[TURNS];
            case 7: return house.counts[IDLE];
            case 8: return house.counts[RESTARTS];
            case 9: return house.counts[CONFLICTS];
            case 10: return house.counts[COMMITS];
            case 11: return house.used;
            case 12: return house.units;
            case 13: return house.waiting.length;
            case 14: return house.second;
            default: return NONE;
        }
    }

    public int sound() {
        if (house.down) return DOWN;
        return house.globals.inOrder() && machine.locals.inOrder() ? 1 : 0;
    }

    // ---- the disk

    public int sync() {
        return house.down ? DOWN : house.write();
    }

    public int cut(int n, int tear) {
        if (house.down) return DOWN;
        if (n < NONE || n > GREATEST_CUT || tear < 0 || tear >= BLOCK) return NONE;
        house.cutAt = n;
        house.tear = tear;
        return 1;
    }

    public int start() {
        if (!house.down) return STATE;
        house.begin();
        machine.begin();
        int units = 0, block = 1;
        for (int s = 0; s < BLOCKS && block <= house.used; s++) {
            block = house.gather(block);
            int at = 0, behind = behindUnit(0);
            for (int u = 0; u < BLOCKS * LOAD && behind > 0; u++) {
                // first all of its texts are read, then it is done
                for (int p = at; p + 1 < behind; p = Math.max(p + 1, house.behindRecord(p, node, value))) {
                    house.behindRecord(p, node, value);
                    if (house.waiting.at(p) == ROUTINE_RECORD && !readSpare()) behind = 0;
                }
                for (int p = at; p + 1 < behind; p = Math.max(p + 1, house.behindRecord(p, node, value))) {
                    house.behindRecord(p, node, value);
                    if (house.waiting.at(p) == ROUTINE_RECORD) readSpare();
                    redo(house.waiting.at(p));
                }
                if (behind > 0) {
                    units++;
                    at = behind;
                    behind = behindUnit(at);
                }
            }
        }
        house.waiting.clear();
        return units;
    }

    /** The place behind the unit at a place of those that are done again; 0 if there is none that is whole and such. */
    private int behindUnit(int from) {
        int at = from, room = MOST_ROUTINES - house.routineCount;
        for (int i = 0; i < BLOCKS * LOAD; i++) {
            if (i > 0 && house.waiting.at(at) == 0) return at + 1;
            int behind = house.behindRecord(at, node, value);
            if (behind == 0) return 0;
            if (house.waiting.at(at) == ROUTINE_RECORD && isFresh(from, at)) room--;
            if (room < 0) return 0;
            at = behind;
        }
        return 0;
    }

    /** Whether a routine's record is the first one of its name, in the house and in the unit. */
    private boolean isFresh(int from, int at) {
        long name = node.name;
        boolean fresh = house.routineOf(name) < 0;
        for (int p = from; p < at; p = Math.max(p + 1, house.behindRecord(p, node, value))) {
            house.behindRecord(p, node, value);
            if (house.waiting.at(p) == ROUTINE_RECORD && node.name == name) fresh = false;
        }
        return fresh;
    }

    /** Does the record that was read again; a value for which there is no room is left out. */
    private void redo(int type) {
        if (type == SET_RECORD) {
            house.globals.put(node, value);
        } else if (type == KILL_RECORD) {
            house.globals.run(node);
            house.globals.removeRun();
        } else {
            house.keep(node.name);
        }
    }

    public int octet(int block, int i) {
        return house.octetAt(block, i);
    }

    public int poke(int block, int i, int mask) {
        int is = house.octetAt(block, i), at = (block - 1) * BLOCK + i;
        if (is == NONE || at < 0 || at >= house.blocks.length) return NONE;
        house.blocks[at] = (byte) (is ^ mask & 255);
        return house.octetAt(block, i);
    }

    public int verify() {
        if (house.down) return DOWN;
        for (int i = 1; i <= house.used; i++) if (!house.right(i)) return i;
        return NONE;
    }

    /** Bytes in a row that is made once and used again: a string, a text, records. */
    private static final class Row {
        private final byte[] bytes;
        private int length;
        private int kind;

        private Row(int most) {
            bytes = new byte[most];
        }

        private static Row[] many(int rows, int most) {
            Row[] all = new Row[rows];
            for (int i = 0; i < all.length; i++) all[i] = new Row(most);
            return all;
        }

        private void clear() {
            length = 0;
            kind = 0;
        }

        private int at(int i) {
            return i >= 0 && i < length && i < bytes.length ? bytes[i] & 255 : NONE;
        }

        private void add(int b) {
            if (length >= 0 && length < bytes.length) {
                bytes[length] = (byte) b;
                length++;
            }
        }

        private boolean addPart(byte[] from, int start, int many) {
            if (start < 0 || many < 0 || many > from.length - start || many > bytes.length - length) return false;
            System.arraycopy(from, start, bytes, length, many);
            length += many;
            return true;
        }

        private boolean addRow(Row r) {
            return addPart(r.bytes, 0, r.length);
        }

        private void copy(Row r) {
            clear();
            addPart(r.bytes, 0, r.length);
        }

        private void addMany(int b, int many) {
            for (int i = 0; i < many && length < bytes.length; i++) add(b);
        }

        private void addName(long name) {
            for (int i = 56; i >= 0 && (name >>> i & 255) != 0; i -= 8) add((int) (name >>> i & 255));
        }

        private void addWhole(long n) {
            if (n < 0) add('-');
            long left = Math.abs(n);
            int digit = 18;
            while (digit > 0 && left < POWERS[digit]) digit--;
            for (; digit >= 0; digit--) add((int) ('0' + left / POWERS[digit] % 10));
        }

        private boolean same(Row r) {
            if (length != r.length) return false;
            for (int i = 0; i < length; i++) if (at(i) != r.at(i)) return false;
            return true;
        }

        /** By bytes, one that begins the other before it. */
        private int compare(Row r) {
            for (int i = 0; i < length && i < r.length; i++) if (at(i) != r.at(i)) return at(i) < r.at(i) ? -1 : 1;
            return Integer.compare(length, r.length);
        }

        /** Where the first t stands that begins at a place (from 0 on) or behind it; NONE. */
        private int find(Row t, int from) {
            for (int i = Math.max(from, 0); i + t.length <= length; i++) {
                int k = 0;
                while (k < t.length && at(i + k) == t.at(k)) k++;
                if (k == t.length) return i;
            }
            return NONE;
        }
    }

    private static boolean isDigit(int c) {
        return c >= '0' && c <= '9';
    }

    private static boolean beginsName(int c) {
        return c == '%' || c >= 'A' && c <= 'Z' || c >= 'a' && c <= 'z';
    }

    private static boolean goesOnName(int c) {
        return c >= '0' && c <= '9' || c >= 'A' && c <= 'Z' || c >= 'a' && c <= 'z';
    }

    /** The name (or label) at a place as one number: its bytes are below 128, so names are sorted by their bytes as these numbers are. */
    private static long packed(byte[] from, int start, int end) {
        long name = 0;
        int i = 0;
        for (; i < LONGEST_NAME && start >= 0 && start + i < end && start + i < from.length; i++) {
            int c = from[start + i] & 255;
            boolean letter = c >= 'A' && c <= 'Z' || c >= 'a' && c <= 'z';
            if (!letter && !(c >= '0' && c <= '9') && !(i == 0 && c == '%')) break;
            name = name << 8 | c;
        }
        return i == 0 ? 0 : name << 8 * (LONGEST_NAME - i);
    }

    private static int nameLength(long name) {
        int n = 0;
        while (n < LONGEST_NAME && (name >>> 56 - 8 * n & 255) != 0) n++;
        return n;
    }

    /** The next of a stream of numbers. */
    private static long next(long x) {
        return x * 6364136223846793005L + 1442695040888963407L;
    }

    /** A number: m times 10^e, without 0s at the end of m. */
    private static final class Num {
        private long m;
        private int e;
        /** Digits for sums; none in a number that nothing is added to. */
        private final int[] row;

        private Num(int places) {
            row = new int[places];
        }

        private static Num[] many(int numbers) {
            Num[] all = new Num[numbers];
            for (int i = 0; i < all.length; i++) all[i] = new Num(0);
            return all;
        }

        private void copy(Num n) {
            m = n.m;
            e = n.e;
        }

        private static int digits(long v) {
            int n = 0;
            while (n < POWERS.length && v >= POWERS[n]) n++;
            return n;
        }

        /**
         * Becomes value (of 18 digits at most, the digit behind it is told) times 10^power, rounded by that digit and
         * then to a whole number of times 10^lowest: 0 or the error.
         */
        private int fit(boolean minus, long value, int behind, int power, int lowest) {
            long v = behind >= 5 ? value + 1 : value;
            int p = power, drop = lowest - power;
            if (drop > 0) {
                v = drop > 19 ? 0 : v / POWERS[drop - 1] / 10 + (v / POWERS[drop - 1] % 10 >= 5 ? 1 : 0);
                p = lowest;
            }
            for (int i = 0; i < 19 && v != 0 && v % 10 == 0; i++) {
                v /= 10;
                p++;
            }
            m = minus ? -v : v;
            e = v == 0 ? 0 : p;
            if (v == 0 || p < 12 || p < 30 && v < POWERS[30 - p]) return 0;
            m = 0;
            e = 0;
            return TOO_GREAT;
        }

        /** Reads the longest front from a place on that is a number: 0 or the error. */
        private int read(byte[] from, int start, int end) {
            int i = Math.max(start, 0), last = Math.min(end, from.length);
            boolean minus = false, point = false, any = false;
            for (; i < last && (from[i] == '+' || from[i] == '-'); i++) if (from[i] == '-') minus = !minus;
            long v = 0;
            int kept = 0, behind = -1, power = 0;
            for (; i < last; i++) {
                int c = from[i];
                if (c == '.' && !point) {
                    point = true;
                } else {
                    if (!isDigit(c)) break;
                    any = true;
                    if (kept < 18 && (kept > 0 || c != '0')) {
                        v = v * 10 + c - '0';
                        kept++;
                    } else if (kept == 18) {
                        if (behind < 0) behind = c - '0';
                        power++;
                    }
                    if (point) power--;
                }
            }
            if (!any) return fit(false, 0, 0, 0, LOWEST);
            return fit(minus, v, behind, power + exponent(from, i, last), LOWEST);
        }

        /** What the E at a place tells; 0 if there is none that is whole. */
        private static int exponent(byte[] from, int start, int end) {
            int i = start;
            if (i >= end || i >= from.length || from[i] != 'E') return 0;
            i++;
            boolean minus = i < end && i < from.length && from[i] == '-';
            if (minus || i < end && i < from.length && from[i] == '+') i++;
            int n = 0;
            for (; i < end && i < from.length && from[i] >= '0' && from[i] <= '9'; i++) n = Math.min(999, n * 10 + from[i] - '0');
            return minus ? -n : n;
        }

        /** The order of the sizes. */
        private int compareSize(Num n) {
            long x = Math.abs(m), y = Math.abs(n.m);
            int a = digits(x), b = digits(y);
            if (x == 0 || y == 0) return Long.compare(x, y);
            if (a + e != b + n.e) return a + e < b + n.e ? -1 : 1;
            return Long.compare(x * POWERS[Math.max(18 - a, 0)], y * POWERS[Math.max(18 - b, 0)]);
        }

        private int compare(Num n) {
            if (m < 0 != n.m < 0) return m < 0 ? -1 : 1;
            return m < 0 ? -compareSize(n) : compareSize(n);
        }

        private int add(Num n) {
            if (n.m == 0) return 0;
            if (m == 0) {
                copy(n);
                return 0;
            }
            boolean apart = m < 0 != n.m < 0;
            int c = apart ? compareSize(n) : 1;
            if (c == 0) return fit(false, 0, 0, 0, LOWEST);
            boolean minus = c < 0 ? n.m < 0 : m < 0;
            for (int i = 0; i < row.length; i++) row[i] = 0;
            spread(this, c < 0 ? -1 : 1);
            spread(n, apart && c > 0 ? -1 : 1);
            int carry = 0;
            for (int i = 0; i < row.length; i++) {
                int d = row[i] + carry;
                carry = Math.floorDiv(d, 10);
                row[i] = Math.floorMod(d, 10);
            }
            return gather(minus);
        }

        /** Place i of the row is that of 10^(i - 30). */
        private void spread(Num n, int sign) {
            long v = Math.abs(n.m);
            for (int i = n.e + 30; i >= 0 && i < row.length && v != 0; i++) {
                row[i] += sign * (int) (v % 10);
                v /= 10;
            }
        }

        private int gather(boolean minus) {
            int top = row.length - 1;
            while (top > 0 && row[top] == 0) top--;
            long v = 0;
            int i = top;
            for (; i >= 0 && i > top - 18; i--) v = v * 10 + row[i];
            return fit(minus, v, i >= 0 && i < row.length ? row[i] : 0, i + 1 - 30, LOWEST);
        }

        private int multiply(long by, int power) {
            boolean minus = m < 0 != by < 0;
            long x = Math.abs(m), y = Math.abs(by);
            long low = x % BILLION * (y % BILLION);
            long middle = x / BILLION * (y % BILLION) + x % BILLION * (y / BILLION) + low / BILLION;
            long high = x / BILLION * (y / BILLION) + middle / BILLION;
            long rest = middle % BILLION * BILLION + low % BILLION;
            int n = digits(high);
            if (n < 1 || n > 18) return fit(minus, rest, 0, e + power, LOWEST);
            return fit(minus, high * POWERS[18 - n] + rest / POWERS[n], (int) (rest / POWERS[n - 1] % 10), e + power + n, LOWEST);
        }

        /** The exact quotient, or that cut to a whole number. Ten times what is left may be no long; so it is times 5, then times 2. */
        private int divide(Num by, boolean whole) {
            long y = Math.abs(by.m), x = Math.abs(m);
            if (y == 0) return BY_ZERO;
            boolean minus = m < 0 != by.m < 0;
            long v = x / y, left = x % y;
            int power = e - by.e, behind = -1;
            if (whole && power < 0) return fit(minus, power < -18 ? 0 : v / POWERS[-power], 0, 0, LOWEST);
            int steps = whole ? power : 60;
            if (whole) power = 0;
            for (int i = 0; i < steps && (whole || left != 0 && behind < 0); i++) {
                long five = left * 5, ten = five % y * 2;
                int d = (int) (five / y * 2 + ten / y);
                left = ten % y;
                if (digits(v) < 18) {
                    v = v * 10 + d;
                    if (!whole) power--;
                } else {
                    if (behind < 0) behind = d;
                    if (whole) power++;
                }
            }
            return fit(minus, v, behind, power, LOWEST);
        }

        /** Less by times the greatest whole number not above the quotient; changes the sign of by. Times 10 as in divide. */
        private int modulo(Num by) {
            long y = Math.abs(by.m), x = Math.abs(m);
            if (y == 0) return BY_ZERO;
            long left = x;
            int low = Math.min(e, by.e), apart = by.e - e;
            if (apart <= 0) {
                left = x % y;
                for (int i = 0; i < -apart; i++) left = left * 5 % y * 2 % y;
            } else if (digits(y) + apart <= 18) {
                left = x % (y * POWERS[apart]);
            }
            boolean minus = by.m < 0;
            if (left == 0 || minus == m < 0) return fit(minus, left, 0, low, LOWEST);
            fit(true, left, 0, low, LOWEST);
            by.m = y;
            int error = add(by);
            if (minus) m = -m;
            return error;
        }

        private int power(Num by) {
            if (by.e < 0 || by.e > 2 || Math.abs(by.m) > 100) return TOO_GREAT;
            long n = by.m * POWERS[by.e];
            if (n < -100 || n > 100) return TOO_GREAT;
            long base = m;
            int baseE = e, error = 0;
            m = 1;
            e = 0;
            for (int i = 0; i < Math.abs(n) && error == 0; i++) error = multiply(base, baseE);
            if (n >= 0 || error != 0) return error;
            by.copy(this);
            m = 1;
            e = 0;
            return divide(by, false);
        }

        /** Cut to a whole number, and to what such numbers may be. */
        private int whole() {
            long v = Math.abs(m);
            if (e >= 0) v = digits(v) + e > 10 ? GREATEST_WHOLE : v * POWERS[Math.min(e, 18)];
            else v = e < -18 ? 0 : v / POWERS[-e];
            v = Math.min(v, GREATEST_WHOLE);
            return (int) (m < 0 ? -v : v);
        }

        private int digitAt(int power) {
            int i = power - e;
            return i < 0 || i > 18 ? 0 : (int) (Math.abs(m) / POWERS[i] % 10);
        }

        private void text(Row to) {
            if (m < 0) to.add('-');
            for (int i = digits(Math.abs(m)) + e - 1; i >= 0; i--) to.add('0' + digitAt(i));
            if (m == 0) to.add('0');
            if (e < 0) to.add('.');
            for (int i = -1; i >= e; i--) to.add('0' + digitAt(i));
        }

        /** Rounded, with so many digits behind the point, all of them written. */
        private void fixed(Row to, int places) {
            fit(m < 0, Math.abs(m), 0, e, -places);
            if (m < 0) to.add('-');
            for (int i = Math.max(digits(Math.abs(m)) + e - 1, 0); i >= 0; i--) to.add('0' + digitAt(i));
            if (places > 0) to.add('.');
            for (int i = -1; i >= -places; i--) to.add('0' + digitAt(i));
        }

        /** Whether these bytes are the text of a number. */
        private static boolean canonic(byte[] from, int start, int many) {
            if (start < 0 || many < 1 || many > from.length - start) return false;
            if (many == 1 && from[start] == '0') return true;
            int end = start + many, i = from[start] == '-' ? start + 1 : start;
            if (i >= end || from[i] == '0') return false;
            int first = NONE, last = NONE, n = 0, whole = 0;
            boolean point = false;
            for (; i < end; i++) {
                int c = from[i];
                if (c == '.' && !point) {
                    point = true;
                    whole = n;
                } else {
                    if (!isDigit(c)) return false;
                    if (c != '0' && first < 0) first = n;
                    if (c != '0') last = n;
                    n++;
                }
            }
            if (!point) whole = n;
            if (point && (n == whole || last != n - 1)) return false;
            return first >= 0 && last - first < 18 && whole <= 30 && n - whole <= 30;
        }
    }

    /** A name with subscripts. Of each subscript the key has its length (and CANONIC, if it is), then its bytes. */
    private static final class Node {
        private static final int CANONIC = 128;
        private final byte[] key = new byte[GREATEST_NODE + 4];
        private int length;
        private int subscripts;
        private long name;
        private int kind;
        /** Which tree it is in: the cell of a local, the house or a process for a global, the holder of a lock. */
        private int owner;
        private int times;
        private boolean bad;
        private boolean lastEmpty;

        private static Node[] many(int nodes) {
            Node[] all = new Node[nodes];
            for (int i = 0; i < all.length; i++) all[i] = new Node();
            return all;
        }

        private void begin(int ofKind, long ofName) {
            kind = ofKind;
            name = ofName;
            length = 0;
            subscripts = 0;
            owner = 0;
            times = 0;
            bad = false;
            lastEmpty = false;
        }

        private void copy(Node n) {
            begin(n.kind, n.name);
            owner = n.owner;
            times = n.times;
            bad = n.bad;
            lastEmpty = n.lastEmpty;
            addBehind(n, 0, n.subscripts);
        }

        private void add(byte[] from, int start, int many) {
            if (bad || lastEmpty || subscripts >= MOST_SUBSCRIPTS || many > LONGEST_SUBSCRIPT || length + many >= key.length
                || many < 0 || start < 0 || many > from.length - start) {
                bad = true;
                return;
            }
            key[length] = (byte) (Num.canonic(from, start, many) ? many | CANONIC : many);
            System.arraycopy(from, start, key, length + 1, many);
            length += 1 + many;
            subscripts++;
            lastEmpty = many == 0;
        }

        /** The subscripts that stand behind a place of the other's key; they are so many. */
        private void addBehind(Node n, int start, int many) {
            int bytes = n.length - start;
            if (start < 0 || bytes < 0 || bytes > key.length - length) {
                bad = true;
                return;
            }
            System.arraycopy(n.key, start, key, length, bytes);
            length += bytes;
            subscripts += many;
        }

        private boolean canBe() {
            return !bad && subscripts <= MOST_SUBSCRIPTS && nameLength(name) + length + subscripts <= GREATEST_NODE;
        }

        /** Where in the key a subscript (from 0 on) is told, or the end. */
        private int place(int subscript) {
            int at = 0;
            for (int i = 0; i < subscript && at < length; i++) at += 1 + lengthAt(at);
            return Math.min(at, length);
        }

        private int lengthAt(int at) {
            return at >= 0 && at < key.length ? key[at] & 127 : 0;
        }

        private void addSubscript(int subscript, Row to) {
            int at = place(subscript);
            if (at < length) to.addPart(key, at + 1, lengthAt(at));
        }

        private void dropLast() {
            if (subscripts < 1) return;
            length = place(subscripts - 1);
            subscripts--;
            lastEmpty = false;
        }

        /** The text as of $NAME, with so many subscripts at most. */
        private void text(Row to, int most) {
            if (kind == A_GLOBAL) to.add('^');
            to.addName(name);
            int many = Math.min(most, subscripts), at = 0;
            for (int i = 0; i < many && at < length; i++) {
                to.add(i == 0 ? '(' : ',');
                boolean canonic = key[at] < 0;
                if (!canonic) to.add('"');
                for (int k = at + 1; k <= at + lengthAt(at) && k < key.length; k++) {
                    if (!canonic && key[k] == '"') to.add('"');
                    to.add(key[k]);
                }
                if (!canonic) to.add('"');
                at += 1 + lengthAt(at);
            }
            if (many > 0) to.add(')');
        }

        /** Becomes what a text as of $NAME names; false if it is none. An empty subscript may be last. */
        private boolean read(Row text, Row scratch) {
            int at = text.at(0) == '^' ? 1 : 0, from = at;
            if (!beginsName(text.at(at))) return false;
            while (at < text.length && goesOnName(text.at(at)) || at == from) at++;
            if (at - from > LONGEST_NAME) return false;
            begin(from == 1 ? A_GLOBAL : A_LOCAL, packed(text.bytes, from, text.length));
            if (at == text.length) return true;
            if (text.at(at) != '(') return false;
            while (at < text.length - 1 && subscripts <= MOST_SUBSCRIPTS) {
                scratch.clear();
                boolean quoted = text.at(at + 1) == '"';
                at = readSubscript(text, at + 1, scratch);
                if (quoted == Num.canonic(scratch.bytes, 0, scratch.length)) return false;
                add(scratch.bytes, 0, scratch.length);
                if (bad || text.at(at) != ',' && text.at(at) != ')') return false;
                if (text.at(at) == ')') return at == text.length - 1 && canBe();
            }
            return false;
        }

        private static int readSubscript(Row text, int start, Row to) {
            int at = start;
            if (text.at(at) != '"') {
                for (; at < text.length && text.at(at) != ',' && text.at(at) != ')'; at++) to.add(text.at(at));
                return at;
            }
            for (at++; at < text.length; at++) {
                if (text.at(at) == '"') {
                    at++;
                    if (text.at(at) != '"') return at;
                }
                to.add(text.at(at));
            }
            return text.length + 1;
        }

        /** Less than 0: before the key; 0: the same; 1: below it; 2: behind it and all below. */
        private static int order(Node n, Node to, boolean byName) {
            if (n.owner != to.owner) return n.owner < to.owner ? -1 : 2;
            if (byName && n.name != to.name) return Long.compare(n.name, to.name) < 0 ? -1 : 2;
            byte[] x = n.key, y = to.key;
            int at = 0;
            while (at < n.length && at < to.length && at < x.length && at < y.length) {
                int a = x[at] & 127, b = y[at] & 127, endA = at + 1 + a, endB = at + 1 + b;
                if (endA > x.length || endB > y.length) return -1;
                if (x[at] < 0 != y[at] < 0) return x[at] < 0 ? -1 : 2;
                boolean numbers = x[at] < 0, below = numbers && x[at + 1] == '-';
                if (below != (numbers && y[at + 1] == '-')) return below ? -1 : 2;
                boolean zero = numbers && a == 1 && x[at + 1] == '0';
                if (!below && zero != (numbers && b == 1 && y[at + 1] == '0')) return zero ? -1 : 2;
                int c = 0;
                if (numbers) {
                    int wholeA = at + 1, wholeB = at + 1;
                    while (wholeA < endA && x[wholeA] != '.') wholeA++;
                    while (wholeB < endB && y[wholeB] != '.') wholeB++;
                    c = Integer.compare(wholeA, wholeB);
                }
                for (int i = at + 1; c == 0 && i < endA && i < endB; i++) c = Integer.compare(x[i] & 255, y[i] & 255);
                if (c == 0) c = Integer.compare(a, b);
                if (c != 0) return c < 0 != below ? -1 : 2;
                at = endA;
            }
            return n.length == to.length ? 0 : n.length < to.length ? -1 : 1;
        }
    }

    /** Nodes with values, sorted: all of one owner (and name) stand together. */
    private static final class Tree {
        private final Node[] nodes;
        private final Row[] values;
        /** The places of those that are, in their order; behind them the places that are free. */
        private final int[] order;
        private final int[] spare;
        private final boolean byName;
        private int count;
        /** The run that was looked for last. */
        private int from;
        private int behind;

        private Tree(int most, boolean sortedByName) {
            nodes = Node.many(most);
            values = Row.many(most, LONGEST);
            order = new int[most];
            spare = new int[most];
            byName = sortedByName;
            clear();
        }

        private void clear() {
            count = 0;
            for (int i = 0; i < order.length; i++) order[i] = i;
        }

        private boolean hasRoom(int many) {
            return many <= order.length - count;
        }

        /** The node at a place of the order; null if there is none. */
        private Node node(int i) {
            if (i < 0 || i >= count || i >= order.length) return null;
            int p = order[i];
            return p >= 0 && p < nodes.length ? nodes[p] : null;
        }

        private Row value(int i) {
            if (i < 0 || i >= count || i >= order.length) return null;
            int p = order[i];
            return p >= 0 && p < values.length ? values[p] : null;
        }

        private int place(Node key, int mode) {
            int low = 0, high = count;
            while (low < high) {
                int middle = low + high >>> 1, p = middle < order.length ? order[middle] : 0;
                Node n = p >= 0 && p < nodes.length ? nodes[p] : null;
                if (n == null || Node.order(n, key, byName) < mode) low = middle + 1;
                else high = middle;
            }
            return low;
        }

        /** How the node at a place of the order stands to a key: 0 the same, 1 below it. */
        private int standing(int i, Node key) {
            Node n = node(i);
            return n == null ? 2 : Node.order(n, key, byName);
        }

        private Row find(Node key) {
            int i = place(key, AT);
            return standing(i, key) == 0 ? value(i) : null;
        }

        private int data(Node key) {
            int i = place(key, AT), here = standing(i, key) == 0 ? 1 : 0;
            return standing(i + here, key) == 1 ? here + 10 : here;
        }

        private boolean put(Node key, Row value) {
            int i = place(key, AT);
            if (standing(i, key) == 0) {
                Row old = value(i);
                if (old != null) old.copy(value);
                return old != null;
            }
            if (count >= order.length || i < 0 || i > count) return false;
            int p = order[count];
            Node n = p >= 0 && p < nodes.length ? nodes[p] : null;
            Row v = p >= 0 && p < values.length ? values[p] : null;
            if (n == null || v == null) return false;
            n.copy(key);
            v.copy(value);
            System.arraycopy(order, i, order, i + 1, count - i);
            order[i] = p;
            count++;
            return true;
        }

        /** The run of a node and all below it; how many. */
        private int run(Node key) {
            from = place(key, AT);
            behind = place(key, BELOW);
            return behind - from;
        }

        /** The run of all that an owner has; how many. */
        private int runOf(int owner) {
            from = firstOf(owner);
            behind = firstOf(owner + 1);
            return behind - from;
        }

        private int firstOf(int owner) {
            int low = 0, high = count;
            while (low < high) {
                int middle = low + high >>> 1, p = middle < order.length ? order[middle] : 0;
                Node n = p >= 0 && p < nodes.length ? nodes[p] : null;
                if (n == null || n.owner < owner) low = middle + 1;
                else high = middle;
            }
            return low;
        }

        private boolean hasRun() {
            return from >= 0 && from <= behind && behind <= count && count <= order.length;
        }

        private void removeRun() {
            if (!hasRun()) return;
            int many = behind - from;
            System.arraycopy(order, from, spare, 0, many);
            System.arraycopy(order, behind, order, from, count - behind);
            System.arraycopy(spare, 0, order, count - many, many);
            count -= many;
            behind = from;
        }

        /** The run, which is one node's with all below it, goes to another owner that has none such. */
        private void moveRun(Node key, int owner) {
            if (!hasRun()) return;
            int many = behind - from, old = key.owner;
            removeRun();
            for (int i = 0; i < many; i++) {
                int p = spare[i];
                if (p >= 0 && p < nodes.length && nodes[p] != null) nodes[p].owner = owner;
            }
            key.owner = owner;
            insert(place(key, AT), many);
            key.owner = old;
        }

        /** Those whose places are in the spare row come in. */
        private void insert(int i, int many) {
            if (i < 0 || i > count || many > order.length - count) return;
            System.arraycopy(order, i, order, i + many, count - i);
            System.arraycopy(spare, 0, order, i, many);
            count += many;
        }

        /** The run comes again for another owner that has none such. */
        private void copyRun(Node key, int owner) {
            if (!hasRun()) return;
            int many = behind - from, old = key.owner;
            if (!hasRoom(many)) return;
            for (int i = 0; i < many; i++) {
                int p = order[count + i];
                Node n = node(from + i), to = p >= 0 && p < nodes.length ? nodes[p] : null;
                Row v = value(from + i), toValue = p >= 0 && p < values.length ? values[p] : null;
                spare[i] = p;
                if (n != null && v != null && to != null && toValue != null) {
                    to.copy(n);
                    to.owner = owner;
                    toValue.copy(v);
                }
            }
            key.owner = owner;
            insert(place(key, AT), many);
            key.owner = old;
        }

        private boolean inOrder() {
            for (int i = 0; i + 1 < count; i++) {
                Node n = node(i + 1);
                if (n == null || standing(i, n) >= 0) return false;
            }
            return true;
        }
    }

    /** A text and the code that it is made into while it is read: a routine, one line, a REF, a pattern, arguments. */
    private static final class Text {
        private final byte[] bytes;
        private int length;
        private final int[] code;
        private int codeLength;
        private int lines;
        private final int[] starts;
        private final int[] codes;
        private final int[] levels;
        private final long[] labels;
        /** Where a line's formals begin, behind their bracket; 0 if it has none. */
        private final int[] formals;
        private final int[] targets = new int[MOST_LIST];
        /** A routine's name; 0 of other texts. */
        private long name;
        /** Where a text of @ was told. */
        private Text back;
        private int backPlace;
        private int at;
        private int fault;
        private boolean lined;
        private int found;

        private Text(int most, int mostLines) {
            bytes = new byte[most];
            // no text wants more than two words for each byte
            code = new int[2 * most + 2 * mostLines + 16];
            starts = new int[mostLines];
            codes = new int[mostLines];
            levels = new int[mostLines];
            labels = new long[mostLines];
            formals = new int[mostLines];
        }

        private static Text[] many(int texts, int most, int mostLines) {
            Text[] all = new Text[texts];
            for (int i = 0; i < all.length; i++) all[i] = new Text(most, mostLines);
            return all;
        }

        private boolean load(byte[] from, int start, int many) {
            if (start < 0 || many < 0 || many > bytes.length || many > from.length - start) return false;
            System.arraycopy(from, start, bytes, 0, many);
            length = many;
            name = 0;
            return true;
        }

        private int word(int i) {
            return i >= 0 && i < codeLength && i < code.length ? code[i] : LINE_END;
        }

        private int byteAt(int i) {
            return i >= 0 && i < length && i < bytes.length ? bytes[i] & 255 : NONE;
        }

        private int startOf(int line) {
            return line >= 0 && line < lines && line < starts.length ? starts[line] : length;
        }

        private int lengthOf(int line) {
            int behind = line + 1 < lines ? startOf(line + 1) - 1 : length;
            return Math.max(0, behind - startOf(line));
        }

        private int codeOf(int line) {
            return line >= 0 && line < lines && line < codes.length ? codes[line] : codeLength;
        }

        private int levelOf(int line) {
            return line >= 0 && line < lines && line < levels.length ? levels[line] : 1;
        }

        private int formalsOf(int line) {
            return line >= 0 && line < lines && line < formals.length ? formals[line] : 0;
        }

        private long nameAt(int place) {
            return packed(bytes, place, length);
        }

        /** The line of a label; NONE. */
        private int lineOf(long label) {
            for (int i = 0; i < lines && i < labels.length; i++) if (labels[i] == label) return i;
            return NONE;
        }

        /** Behind the name at a place and a comma behind that. */
        private int behindName(int place) {
            int i = place + nameLength(nameAt(place));
            return byteAt(i) == ',' ? i + 1 : i;
        }

        // ---- reading: at is the place of the next byte; behind the first fault nothing is left to read

        private void begin(boolean inLines) {
            at = 0;
            fault = NONE;
            codeLength = 0;
            lines = 0;
            lined = inLines;
        }

        private void failAt(int place) {
            if (fault < 0) fault = place;
            at = length;
        }

        private int peek() {
            return at >= 0 && at < length && at < bytes.length ? bytes[at] & 255 : NONE;
        }

        private boolean accept(int c) {
            boolean here = at < length && at < bytes.length && (bytes[at] & 255) == c;
            if (here) at++;
            return here;
        }

        private void expect(int c) {
            if (at < length && at < bytes.length && (bytes[at] & 255) == c) {
                at++;
            } else {
                if (fault < 0) fault = at;
                at = length;
            }
        }

        private void emit(int op, int arg) {
            if (codeLength < code.length) {
                code[codeLength] = op | arg << 8;
                codeLength++;
            }
        }

        private void patch(int place, int op, int arg) {
            if (place >= 0 && place < codeLength && place < code.length) code[place] = op | arg << 8;
        }

        private boolean lineEnds() {
            return at >= length || lined && at < bytes.length && bytes[at] == 10;
        }

        private void skipBlanks() {
            while (at < length && at < bytes.length && bytes[at] == ' ') at++;
        }

        /** Reads the next line of a routine: whether one more is to come. */
        private boolean readLine() {
            if (lines >= MOST_LINES || lines >= starts.length) {
                failAt(at);
                return false;
            }
            int line = lines, c = peek();
            beginLine(line);
            if (beginsName(c) || isDigit(c)) {
                int start = isDigit(c) ? digits(LONGEST_NAME) : readName();
                long label = packed(bytes, start, at);
                if (fault < 0 && lineOf(label) >= 0) failAt(start);
                if (line < labels.length) labels[line] = label;
                if (peek() == '(' && line < formals.length) {
                    formals[line] = at + 1;
                    readFormals();
                }
            }
            if (!lineEnds() && peek() != ' ') failAt(at);
            skipBlanks();
            while (at < length && accept('.')) {
                if (line < levels.length) levels[line]++;
                skipBlanks();
            }
            commands();
            return accept(10) && fault < 0;
        }

        private void beginLine(int line) {
            if (line < 0 || line >= starts.length || line >= codes.length || line >= levels.length) return;
            starts[line] = at;
            codes[line] = codeLength;
            levels[line] = 1;
            if (line < labels.length) labels[line] = 0;
            if (line < formals.length) formals[line] = 0;
            lines = line + 1;
        }

        private void readFormals() {
            int start = at + 1;
            at++;
            if (accept(')')) return;
            for (int i = 0; i <= MOST_LIST && fault < 0; i++) {
                if (i == MOST_LIST) failAt(at);
                int from = readName();
                long formal = packed(bytes, from, at);
                for (int other = start; fault < 0 && other < from; other = Math.max(other + 1, behindName(other))) {
                    if (nameAt(other) == formal) failAt(from);
                }
                if (!accept(',')) break;
            }
            expect(')');
        }

        /** Reads a name: its place. */
        private int readName() {
            int from = at;
            for (; at < length && at < bytes.length; at++) {
                int c = bytes[at];
                boolean letter = c >= 'A' && c <= 'Z' || c >= 'a' && c <= 'z';
                if (!letter && (at == from ? c != '%' : c < '0' || c > '9')) break;
            }
            if (at == from || at - from > LONGEST_NAME) {
                if (fault < 0) fault = from;
                at = length;
            }
            return from;
        }

        /** Reads digits, none or some: their place. */
        private int digits(int most) {
            int from = at;
            while (at < length && at < bytes.length && bytes[at] >= '0' && bytes[at] <= '9') at++;
            if (at - from > most) {
                if (fault < 0) fault = from;
                at = length;
            }
            return from;
        }

        /** Reads a line's text, a REF, a pattern or arguments: false if it is none. */
        private boolean readPiece(int what) {
            begin(what == A_LINE);
            beginLine(0);
            if (what == A_LINE) {
                commands();
            } else if (what == A_REF) {
                reference(0);
            } else if (what == A_PATTERN) {
                if (peek() == '@') failAt(0);
                pattern(0, false);
                emit(MATCH, 0);
            } else {
                arguments(what - SOME_ARGUMENTS, 0);
            }
            emit(AT_END, 0);
            if (at < length) failAt(at);
            return fault < 0;
        }

        /** How far a word of the table may be here; which one it is then, if it is whole, is found. */
        private int longest(String table) {
            int best = 0, index = 0, p = 0;
            found = NONE;
            while (p < table.length()) {
                int n = 0, q = p;
                boolean on = true;
                for (; q < table.length() && table.charAt(q) != ' '; q++) {
                    int c = at + n < length && at + n < bytes.length ? bytes[at + n] : 0;
                    on = on && (c == table.charAt(q) || c == table.charAt(q) + 32);
                    if (on) n++;
                }
                if (n > best) {
                    best = n;
                    found = NONE;
                }
                if (on && n == best && found < 0) found = index / 2;
                index++;
                p = q + 1;
            }
            return best;
        }

        private static boolean mayBeBare(int command) {
            switch (command) {
                case C_GOTO: case C_HANG: case C_IF: case C_JOB: case C_MERGE: case C_READ: case C_SET: case C_WRITE: case C_XECUTE:
                    return false;
                default:
                    return true;
            }
        }

        private static boolean mayHaveArguments(int command) {
            switch (command) {
                case C_BREAK: case C_ELSE: case C_HALT: case C_TCOMMIT: case C_TRESTART: case C_TROLLBACK:
                    return false;
                default:
                    return true;
            }
        }

        private void commands() {
            for (int i = 0; i <= length && fault < 0 && !lineEnds(); i++) {
                if (peek() == ';') {
                    while (at < length && !lineEnds()) at++;
                    break;
                }
                at += longest(COMMANDS);
                int command = found, start = codeLength, skip = NONE;
                if (command < 0) failAt(at);
                emit(COMMAND, 0);
                if (peek() == ':' && command != C_ELSE && command != C_FOR && command != C_IF) {
                    at++;
                    expression(0);
                    skip = codeLength;
                    emit(JUMP_FALSE, 0);
                }
                boolean ends = lineEnds(), bare = ends || byteAt(at) == ' ' && byteAt(at + 1) == ' ';
                if (bare) {
                    if (!mayBeBare(command)) failAt(ends ? at : at + 1);
                    emitBare(command, start);
                } else {
                    expect(' ');
                    if (lineEnds() || !mayHaveArguments(command)) failAt(at);
                    arguments(command, start);
                }
                if (!lineEnds() && peek() != ' ') failAt(at);
                skipBlanks();
                patch(skip, JUMP_FALSE, codeLength);
            }
            emit(LINE_END, 0);
        }

        private void emitBare(int command, int start) {
            switch (command) {
                case C_DO: emit(DO_BLOCK, 0); break;
                case C_ELSE: emit(ELSE, 0); break;
                case C_FOR:
                    emit(FOR_ALL, 0);
                    emit(ROUND, 0);
                    break;
                case C_H: case C_HALT: emit(HALT, 0); break;
                case C_KILL: emit(KILL_ALL, 0); break;
                case C_LOCK: emit(LOCK_NONE, 0); break;
                case C_NEW: emit(NEW_ALL, 0); break;
                case C_QUIT: emit(QUIT, 0); break;
                case C_TCOMMIT: emit(TCOMMIT, 0); break;
                case C_TRESTART: emit(TRESTART, 0); break;
                case C_TROLLBACK: emit(TROLLBACK, 0); break;
                case C_TSTART:
                    emit(TSTART, 0);
                    emit(0, start);
                    break;
                default: break;
            }
        }

        /** The arguments of a command that began at a place of the code. */
        private void arguments(int command, int start) {
            for (int i = 0; i <= length && fault < 0; i++) {
                int body = codeLength;
                if (command == C_DO || command == C_GOTO || command == C_XECUTE) emit(NO_OP, 0);
                boolean begun = false;
                if (peek() == '@' && command != C_FOR && command != C_QUIT && command != C_JOB && command != C_TSTART) {
                    begun = indirect(command);
                    if (!begun) {
                        if (command == C_DO || command == C_GOTO || command == C_XECUTE) conditioned(body);
                        if (!accept(',')) return;
                        continue;
                    }
                }
                switch (command) {
                    case C_DO: entry(0, DO); break;
                    case C_GOTO: entry(0, GOTO); break;
                    case C_JOB: entry(0, JOB); break;
                    case C_FOR: ranges(); break;
                    case C_IF: case C_H: case C_HANG: case C_QUIT: case C_XECUTE: worked(command, begun); break;
                    case C_KILL: case C_NEW: names(command, begun); break;
                    case C_LOCK: lockTarget(begun); break;
                    case C_MERGE:
                        if (!begun) reference(0);
                        expect('=');
                        reference(0);
                        emit(MERGE, 0);
                        break;
                    case C_SET:
                        int many = targets(begun);
                        expect('=');
                        expression(0);
                        emitTargets(many);
                        break;
                    case C_TSTART: kept(start); break;
                    default:
                        if (!begun && (peek() == '!' || peek() == '#' || peek() == '?')) format();
                        else if (command == C_READ) readTarget(begun);
                        else worked(command, begun);
                        break;
                }
                if (command == C_DO || command == C_GOTO || command == C_XECUTE) conditioned(body);
                if (command == C_QUIT || command == C_FOR || !accept(',')) return;
            }
        }

        /** Reads @ ATOM: an argument of its own (false), or where a REF begins (true). */
        private boolean indirect(int command) {
            boolean mayHold = command == C_DO || command == C_GOTO || command == C_XECUTE;
            at++;
            atom(1);
            int c = peek();
            if (lineEnds() || c == ',' || c == ' ' || mayHold && c == ':') {
                emit(ARGUMENTS, command);
                return false;
            }
            if (command == C_DO || command == C_GOTO || command == C_NEW) failAt(at);
            emit(AT_REF, 0);
            extension(0);
            return true;
        }

        /** An argument's condition is worked before what it stands behind. */
        private void conditioned(int body) {
            if (!accept(':')) return;
            int over = codeLength;
            emit(JUMP, 0);
            patch(body, JUMP, codeLength);
            expression(0);
            emit(JUMP_TRUE, body + 1);
            patch(over, JUMP, codeLength);
        }

        /** An argument that is an expression, of which a REF by @ may be there. */
        private void worked(int command, boolean begun) {
            boolean star = command == C_WRITE && !begun && accept('*');
            if (begun) emit(VALUE, 0);
            else atom(0);
            operators(0);
            switch (command) {
                case C_IF: emit(IF, 0); break;
                case C_QUIT: emit(QUIT_WITH, 0); break;
                case C_XECUTE: emit(XECUTE, 0); break;
                case C_WRITE: emit(star ? WRITE_BYTE : WRITE, 0); break;
                default: emit(HANG, 0); break;
            }
        }

        private void names(int command, boolean begun) {
            int from = at;
            if (!begun && peek() == '(') {
                list(false);
                emit(command == C_KILL ? KILL_BUT : NEW_BUT, from);
            } else if (command == C_KILL) {
                if (!begun) reference(0);
                emit(KILL, 0);
            } else {
                readName();
                emit(NEW, from);
            }
        }

        /** Names in brackets. */
        private void list(boolean mayBeNone) {
            at++;
            if (mayBeNone && accept(')')) return;
            for (int i = 0; i <= MOST_LIST && fault < 0; i++) {
                if (i == MOST_LIST) failAt(at);
                readName();
                if (!accept(',')) break;
            }
            expect(')');
        }

        private void kept(int start) {
            int from = at;
            if (accept('*')) {
                emit(TSTART, 1);
            } else {
                if (peek() == '(') list(true);
                else failAt(at);
                emit(TSTART, 2 | from << 2);
            }
            emit(0, start);
        }

        private void lockTarget(boolean begun) {
            int sign = 0, n = 1;
            if (!begun && accept('+')) sign = 1;
            else if (!begun && accept('-')) sign = 2;
            if (!begun && accept('(')) {
                reference(1);
                for (; fault < 0 && accept(','); n++) {
                    if (n == MOST_LIST) failAt(at);
                    reference(1);
                }
                expect(')');
            } else if (!begun) {
                reference(0);
            }
            boolean timed = accept(':');
            if (timed) expression(0);
            emit(LOCK, sign | n << 2 | (timed ? 128 : 0));
        }

        private void readTarget(boolean begun) {
            int from = at;
            if (!begun && peek() == '"') {
                skipString();
                emit(STRING, from);
                emit(WRITE, 0);
                return;
            }
            if (!begun) reference(0);
            boolean timed = accept(':');
            if (timed) expression(0);
            emit(READ, timed ? 1 : 0);
        }

        private void format() {
            while (at < length && (peek() == '!' || peek() == '#')) {
                emit(WRITE_LINE, peek() == '!' ? 10 : 12);
                at++;
            }
            if (accept('?')) {
                expression(0);
                emit(WRITE_TAB, 0);
            }
        }

        private void ranges() {
            int loop = codeLength;
            emit(FOR, readName());
            emit(0, 0);
            expect('=');
            for (int i = 0; i <= length && fault < 0; i++) {
                int n = 1;
                expression(0);
                for (; n < 3 && accept(':'); n++) expression(0);
                emit(RANGE, n);
                if (!accept(',')) break;
            }
            emit(FOR_END, 0);
            patch(loop + 1, 0, codeLength);
            emit(ROUND, 0);
        }

        /** Reads what is to be set: how many; of each its kind and how many strings it has are noted. */
        private int targets(boolean begun) {
            boolean many = !begun && accept('(');
            int n = 0, open = many ? 1 : 0;
            for (int i = 0; i <= MOST_LIST && fault < 0; i++) {
                int kind = T_NODE, strings = 0;
                if (n >= MOST_LIST) failAt(at);
                if (begun || !accept('$')) {
                    if (!begun) reference(open);
                } else {
                    at += longest(TARGETS);
                    kind = found;
                    if (kind < 0) failAt(at);
                    if (kind == T_PIECE || kind == T_EXTRACT) {
                        if (open >= MOST_OPEN) failAt(at);
                        expect('(');
                        reference(open + 1);
                        if (kind == T_PIECE && peek() != ',') failAt(at);
                        for (; strings < (kind == T_PIECE ? 3 : 2) && accept(','); strings++) expression(open + 1);
                        expect(')');
                    }
                }
                if (n < targets.length) targets[n] = Math.max(kind, 0) | strings << 3;
                n++;
                if (!many || !accept(',')) break;
            }
            if (many) expect(')');
            return n;
        }

        /** What is to be set is told behind all that is worked, by how deep its nodes and strings lie there. */
        private void emitTargets(int many) {
            int nodes = 0, strings = 1;
            for (int i = 0; i < many && i < targets.length; i++) {
                if ((targets[i] & 7) != T_ECODE && (targets[i] & 7) != T_ETRAP) nodes++;
                strings += targets[i] >> 3;
            }
            int node = nodes, string = strings;
            for (int i = 0; i < many && i < targets.length; i++) {
                emit(SET_TO, targets[i] | node << 6 | string << 12);
                if ((targets[i] & 7) != T_ECODE && (targets[i] & 7) != T_ETRAP) node--;
                string -= targets[i] >> 3;
            }
            emit(SET_END, nodes | strings << 6);
        }

        // ---- expressions: open is how many brackets, signs and @ are open

        private void expression(int open) {
            atom(open);
            operators(open);
        }

        private void operators(int open) {
            for (int i = 0; i <= length && fault < 0; i++) {
                int not = 0, op = NONE;
                if (peek() == '\'') {
                    not = NOT;
                    at++;
                }
                int c = peek();
                for (int k = not == 0 ? 0 : O_EQUAL; k < OPERATORS.length(); k++) if (c == OPERATORS.charAt(k)) op = k;
                if (op < 0) {
                    if (not != 0) failAt(at);
                    return;
                }
                at++;
                if (op == O_MULTIPLY && accept('*')) op = O_POWER;
                if (op == O_BEHIND && accept(']')) op = O_SORTS;
                if (op == O_MATCH) {
                    int from = at;
                    boolean told = peek() == '@';
                    pattern(open, false);
                    emit(told ? MATCH_AT : MATCH, told ? 0 : from);
                    if (not != 0) emit(SIGN, '\'');
                } else {
                    atom(open);
                    emit(OPERATE, op | not);
                }
            }
        }

        private void pattern(int open, boolean inner) {
            if (!inner && peek() == '@') {
                if (open >= MOST_OPEN) failAt(at);
                expect('@');
                atom(open + 1);
                return;
            }
            for (int i = 0; i <= length && fault < 0; i++) {
                if (peek() != '.' && !isDigit(peek())) {
                    if (i == 0) failAt(at);
                    return;
                }
                digits(3);
                if (accept('.')) digits(3);
                int c = peek();
                if (c == '"') {
                    skipString();
                } else if (c == '(' && !inner) {
                    if (open >= MOST_OPEN) failAt(at);
                    at = Math.min(at + 1, length);
                    for (int k = 0; k <= length; k++) {
                        pattern(open + 1, true);
                        if (!accept(',')) break;
                    }
                    expect(')');
                } else {
                    if (codes(c) == 0) failAt(at);
                    while (at < length && codes(peek()) != 0) at++;
                }
            }
        }

        /** The capital of a pattern's code; 0 of other bytes. */
        private static int codes(int c) {
            int capital = c >= 'a' ? c - 32 : c;
            return capital == 'A' || capital == 'C' || capital == 'E' || capital == 'L' || capital == 'N' || capital == 'P' || capital == 'U'
                ? capital : 0;
        }

        private void atom(int open) {
            int c = peek();
            if (c == '+' || c == '-' || c == '\'') {
                if (open >= MOST_OPEN) failAt(at);
                expect(c);
                atom(open + 1);
                emit(SIGN, c);
            } else if (c == '(') {
                if (open >= MOST_OPEN) failAt(at);
                expect('(');
                expression(open + 1);
                expect(')');
            } else if (c == '"') {
                int from = at;
                skipString();
                emit(STRING, from);
            } else if (c == '.' || isDigit(c)) {
                emit(NUMBER, readNumber());
            } else if (c == '$') {
                at++;
                if (accept('$')) entry(open, EXTRINSIC);
                else special(open);
            } else {
                reference(open);
                emit(VALUE, 0);
            }
        }

        private void skipString() {
            int from = at, n = 0;
            at++;
            while (at < length && at < bytes.length && n <= LONGEST && !(lined && bytes[at] == 10)) {
                if (bytes[at] == '"') {
                    at++;
                    if (at >= length || at >= bytes.length || bytes[at] != '"') return;
                }
                at++;
                n++;
            }
            if (fault < 0) fault = n > LONGEST ? from : at;
            at = length;
        }

        /** Reads a number: its place. */
        private int readNumber() {
            int from = at, n = 0;
            boolean point = false, right = true;
            for (; at < length && at < bytes.length; at++) {
                boolean digit = bytes[at] >= '0' && bytes[at] <= '9';
                if (!digit && (point || bytes[at] != '.')) break;
                if (digit) n++;
                else point = true;
            }
            right = n > 0;
            if (right && at < length && at < bytes.length && bytes[at] == 'E') {
                at++;
                if (at < length && at < bytes.length && (bytes[at] == '+' || bytes[at] == '-')) at++;
                right = at < length && at < bytes.length && bytes[at] >= '0' && bytes[at] <= '9';
                while (at < length && at < bytes.length && bytes[at] >= '0' && bytes[at] <= '9') at++;
            }
            if (!right) {
                if (fault < 0) fault = at;
                at = length;
            }
            return from;
        }

        private void reference(int open) {
            int from = at;
            if (peek() == '@') {
                if (open >= MOST_OPEN) failAt(at);
                expect('@');
                atom(open + 1);
                emit(AT_REF, 0);
                extension(open);
            } else if (accept('^')) {
                if (peek() == '(') {
                    emit(NAKED, subscripts(open));
                } else {
                    from = readName();
                    emit(GLOBAL, from | subscripts(open) << 12);
                }
            } else {
                readName();
                emit(LOCAL, from | subscripts(open) << 12);
            }
        }

        /** The subscripts behind a REF by @, if there are some. */
        private void extension(int open) {
            if (!accept('@')) return;
            if (peek() != '(') failAt(at);
            emit(EXTEND, subscripts(open));
        }

        private int subscripts(int open) {
            if (peek() != '(') return 0;
            if (open >= MOST_OPEN) failAt(at);
            expect('(');
            int n = 1;
            expression(open + 1);
            for (; fault < 0 && accept(','); n++) {
                if (n >= MOST_SUBSCRIPTS) failAt(at);
                expression(open + 1);
            }
            expect(')');
            return n;
        }

        /** A function, or a special. */
        private void special(int open) {
            int n = longest(FUNCTIONS), function = found, other = longest(SPECIALS), kind = found;
            int most = Math.max(n, other);
            boolean bracket = byteAt(at + most) == '(';
            at = Math.min(at + most, length);
            if (function >= 0 && n == most && bracket) {
                if (open >= MOST_OPEN) failAt(at);
                expect('(');
                function(open + 1, function);
                expect(')');
            } else if (kind >= 0 && other == most) {
                emit(SPECIAL, kind);
            } else {
                failAt(at);
            }
        }

        private void function(int open, int function) {
            int n = 0;
            switch (function) {
                case F_SELECT:
                    choices(open);
                    return;
                case F_TEXT:
                    entry(open, TEXT_OF);
                    return;
                case F_DATA: case F_GET: case F_NAME: case F_ORDER: case F_QUERY:
                    reference(open);
                    int get = codeLength;
                    if (function == F_GET) emit(GET, 0);
                    if (most(function) > 0 && accept(',')) {
                        expression(open);
                        n = 1;
                    } else if (function == F_GET) {
                        emit(EMPTY, 0);
                    }
                    if (function == F_GET) patch(get, GET, codeLength);
                    else emit(NODE_FUNCTION, function | n << 8);
                    return;
                default:
                    break;
            }
            expression(open);
            for (n = 1; fault < 0 && n < most(function) && accept(','); n++) expression(open);
            if (n < fewest(function)) failAt(at);
            if (function == F_CHAR && n == most(function) && accept(',')) failAt(at);
            emit(FUNCTION, function | n << 8);
        }

        private static int most(int function) {
            return function >= 0 && function < MOST.length ? MOST[function] : 0;
        }

        private static int fewest(int function) {
            return function >= 0 && function < FEWEST.length ? FEWEST[function] : 0;
        }

        /** Each choice that is worked jumps behind the last one: these jumps are a chain till their end is known. */
        private void choices(int open) {
            int chain = 0;
            for (int i = 0; i <= length; i++) {
                expression(open);
                expect(':');
                int skip = codeLength;
                emit(JUMP_FALSE, 0);
                expression(open);
                emit(JUMP, chain);
                chain = codeLength;
                patch(skip, JUMP_FALSE, codeLength);
                if (!accept(',')) break;
            }
            emit(NO_CHOICE, 0);
            for (int i = 0; i <= length && chain > 0; i++) {
                int jump = chain - 1;
                chain = word(jump) >>> 8;
                patch(jump, JUMP, codeLength);
            }
        }

        /** An entry with what may be behind it: a word for where it is, behind that of what it is for. */
        private void entry(int open, int op) {
            int label = 0, routine = 0, many = 0;
            boolean further = false;
            if (isDigit(peek())) label = digits(LONGEST_NAME) + 1;
            else if (beginsName(peek())) label = readName() + 1;
            if (op != EXTRINSIC && accept('+')) {
                expression(open);
                further = true;
            }
            if (accept('^')) routine = readName() + 1;
            if (label == 0 && routine == 0 && !further) failAt(at);
            if (!further && op != GOTO && op != TEXT_OF && peek() == '(') many = 1 + actuals(open, op == JOB);
            emit(op, many | (further ? 32 : 0));
            emit(label & 255, label >>> 8 | routine << 4);
        }

        private int actuals(int open, boolean worked) {
            int n = 0;
            if (open >= MOST_OPEN) failAt(at);
            expect('(');
            if (accept(')')) return 0;
            for (; fault < 0 && n <= MOST_LIST; n++) {
                if (n >= MOST_LIST) {
                    failAt(at);
                } else if (!worked && (peek() == ',' || peek() == ')')) {
                    emit(ACTUAL_NONE, 0);
                } else if (!worked && peek() == '.' && !isDigit(byteAt(at + 1))) {
                    at++;
                    emit(ACTUAL_NAME, readName());
                } else {
                    expression(open + 1);
                }
                if (!accept(',')) break;
            }
            expect(')');
            return n + 1;
        }
    }

    /** A level of a process, and what was at hand of the process when it began. */
    private static final class Level {
        private int kind;
        /** The line in which it is: of a routine, or its own one's, or its trap's. */
        private Text text;
        private int line;
        /** Of DO alone the level of its lines. */
        private int block;
        private int test;
        private int strings;
        private int nodes;
        private int ats;
        private int loops;
        private int hidden;
        private Text back;
        private int backPlace;
        private final Row trap = new Row(LONGEST);
        private boolean trapped;
        private final Text own = new Text(LONGEST, 1);
        private final Text trapText = new Text(LONGEST, 1);

        private static Level[] many(int levels) {
            Level[] all = new Level[levels];
            for (int i = 0; i < all.length; i++) all[i] = new Level();
            return all;
        }
    }

    /** A process; what it needs only while it lives is its Work. */
    private static final class Proc {
        private int number;
        private Work work;
        private int status;
        private int wait;
        private long deadline;
        private int test;
        private int depth;
        private int restarts;
        private int x;
        private int y;
        private int began;
        private long stream;
        private final Row code = new Row(LONGEST);
        private final Row out = new Row(MOST_WRITTEN);

        private static Proc[] many(int processes) {
            Proc[] all = new Proc[processes];
            for (int i = 0; i < all.length; i++) all[i] = new Proc();
            return all;
        }

        private void begin(int n, Work w) {
            number = n;
            work = w;
            status = RUNNING;
            wait = RUNNING;
            deadline = 0;
            test = 0;
            depth = 0;
            restarts = 0;
            x = 0;
            y = 0;
            began = 0;
            stream = n;
            code.clear();
            out.clear();
        }

        private void write(int b) {
            if (out.length < MOST_WRITTEN) out.add(b);
            if (b == 12) y = 0;
            if (b == 10) y = (y + 1) % MILLION;
            x = b == 10 || b == 12 ? 0 : (x + 1) % MILLION;
        }

        private void writeBlanks(int many) {
            out.addMany(' ', many);
            x = (x + Math.max(many, 0)) % MILLION;
        }
    }

    /** What a living process has at hand. */
    private static final class Work {
        private final Row[] strings = Row.many(MOST_STRINGS, LONGEST);
        private int stringCount;
        private final Node[] nodes = Node.many(MOST_NODES);
        private int nodeCount;
        private final Level[] levels = Level.many(MOST_LEVELS);
        private int levelCount;
        /** The texts of @ that are being worked. */
        private final Text[] ats = Text.many(MOST_AT, LONGEST, 1);
        private int atCount;
        /** Of each open FOR: where its part begins, where its next range is, how many numbers its range has. */
        private final int[] loops = new int[3 * MOST_LOOPS];
        private final long[] loopNames = new long[MOST_LOOPS];
        private final Num[] steps = Num.many(MOST_LOOPS);
        private final Num[] limits = Num.many(MOST_LOOPS);
        private int loopCount;
        private Text text;
        private int place;
        private final Row[] told = Row.many(MOST_TOLD, LONGEST);
        private int toldCount;
        /** The node that was last met as a global; a local while there is none. */
        private final Node naked = new Node();
        private final Scope scope = new Scope();
        /** Whose globals are those of its transaction's copies. */
        private final int owner;

        private Work(int slot) {
            owner = slot;
        }

        /** Their numbers are 1, 2, .. */
        private static Work[] many(int works) {
            Work[] all = new Work[works];
            for (int i = 0; i < all.length; i++) all[i] = new Work(i + 1);
            return all;
        }

        private void begin() {
            stringCount = 0;
            nodeCount = 0;
            levelCount = 0;
            atCount = 0;
            loopCount = 0;
            toldCount = 0;
            naked.begin(A_LOCAL, 0);
            scope.begin();
        }

        private Level levelAt(int i) {
            return i >= 0 && i < levelCount && i < levels.length ? levels[i] : null;
        }

        private Level top() {
            return levelAt(levelCount - 1);
        }

        /** The string so deep (1 the last one); null if there is none. */
        private Row string(int depth) {
            int i = stringCount - depth;
            return i >= 0 && i < stringCount && i < strings.length ? strings[i] : null;
        }

        private Node node(int depth) {
            int i = nodeCount - depth;
            return i >= 0 && i < nodeCount && i < nodes.length ? nodes[i] : null;
        }

        /** One string in hand more; null if there is no room. */
        private Row push() {
            if (stringCount < 0 || stringCount >= strings.length) return null;
            Row r = strings[stringCount];
            if (r == null) return null;
            r.clear();
            stringCount++;
            return r;
        }

        private void drop(int many) {
            stringCount = Math.max(0, stringCount - many);
        }

        private Node pushNode(int kind, long name) {
            if (nodeCount < 0 || nodeCount >= nodes.length) return null;
            Node n = nodes[nodeCount];
            if (n == null) return null;
            n.begin(kind, name);
            nodeCount++;
            return n;
        }

        private void dropNodes(int many) {
            nodeCount = Math.max(0, nodeCount - many);
        }

        /** One level more; null if there is no room. */
        private Level pushLevel(int kind, int test) {
            if (levelCount < 0 || levelCount >= levels.length) return null;
            Level l = levels[levelCount], under = top();
            if (l == null) return null;
            l.kind = kind;
            l.text = text;
            l.line = 0;
            l.block = 1;
            l.test = test;
            l.strings = stringCount;
            l.nodes = nodeCount;
            l.ats = atCount;
            l.loops = loopCount;
            l.hidden = scope.hiddenCount;
            l.back = text;
            l.backPlace = place;
            l.trapped = false;
            l.trap.clear();
            if (under != null && (kind == BLOCK_LEVEL || kind == TEXT_LEVEL)) l.trap.copy(under.trap);
            levelCount++;
            return l;
        }

        /** What a level's expression, arguments of @ and lines were at is given up. */
        private void giveUp(Level l) {
            stringCount = l.strings;
            nodeCount = l.nodes;
            atCount = l.ats;
        }

        private void dropLoops(int left) {
            loopCount = Math.min(loopCount, Math.max(left, 0));
            if (loopCount < scope.loops) scope.gone |= LOOP_GONE;
        }

        /** A row for a text of @; null if there is no room. */
        private Text nextAt() {
            return atCount >= 0 && atCount < ats.length ? ats[atCount] : null;
        }

        private boolean addTold(Row line) {
            Row r = toldCount >= 0 && toldCount < told.length ? told[toldCount] : null;
            if (r == null) return false;
            r.copy(line);
            toldCount++;
            return true;
        }

        /** The line that was told first goes, into a row. */
        private void nextTold(Row to) {
            Row first = told[0];
            if (toldCount < 1 || first == null) return;
            to.copy(first);
            for (int i = 0; i + 1 < told.length; i++) told[i] = told[i + 1];
            told[told.length - 1] = first;
            toldCount--;
        }
    }

    /** The locals of a process by their names, what is hidden of them, and its transaction. */
    private static final class Scope {
        private final long[] names = new long[MOST_NAMES];
        private final int[] cells = new int[MOST_NAMES];
        private int count;
        /** What was hidden: a name and its cell, or NO_CELL; of NEW alone and ( ) then each KEPT_NAME, then ALL_HIDDEN and how many. */
        private final long[] hiddenNames = new long[MOST_HIDDEN];
        private final int[] hiddenCells = new int[MOST_HIDDEN];
        private int hiddenCount;
        private final long[] keptNames = new long[MOST_LOCALS + MOST_LIST];
        private final int[] keptCells = new int[MOST_LOCALS + MOST_LIST];
        private int keptCount;
        private final long[] copies = new long[MOST_COPIES];
        private final int[] marks = new int[MOST_COPIES];
        private int copyCount;
        private final Row log = new Row(MOST_LOG);
        private boolean restartable;
        private int gone;
        /** Where the transaction's TSTART stands: the level, how many FORs were open, the text, the line, the place. */
        private int level;
        private int loops;
        private Text text;
        private int line;
        private int place;

        private void begin() {
            count = 0;
            hiddenCount = 0;
            keptCount = 0;
            copyCount = 0;
            log.clear();
            loops = 0;
            level = NONE;
            gone = 0;
            restartable = false;
            text = null;
        }

        /** Where a name is or would be. */
        private int place(long name) {
            int low = 0, high = Math.min(count, names.length);
            while (low < high) {
                int middle = low + high >>> 1;
                if (Long.compare(names[middle], name) < 0) low = middle + 1;
                else high = middle;
            }
            return low;
        }

        private long nameAt(int i) {
            return i >= 0 && i < count && i < names.length ? names[i] : 0;
        }

        private int cellAt(int i) {
            return i >= 0 && i < count && i < cells.length ? cells[i] : NO_CELL;
        }

        private int cell(long name) {
            int i = place(name);
            return nameAt(i) == name ? cellAt(i) : NO_CELL;
        }

        private boolean bind(long name, int cell) {
            int i = place(name);
            if (count >= names.length || count >= cells.length || i < 0 || i > count) return false;
            System.arraycopy(names, i, names, i + 1, count - i);
            System.arraycopy(cells, i, cells, i + 1, count - i);
            names[i] = name;
            cells[i] = cell;
            count++;
            return true;
        }

        private void unbind(int i) {
            if (i < 0 || i >= count || count > names.length || count > cells.length) return;
            System.arraycopy(names, i + 1, names, i, count - i - 1);
            System.arraycopy(cells, i + 1, cells, i, count - i - 1);
            count--;
        }

        /** Where the first name of a cell is; NONE. */
        private int nameOf(int cell) {
            for (int i = 0; i < count && i < cells.length; i++) if (cells[i] == cell) return i;
            return NONE;
        }

        private void pushHidden(long name, int cell) {
            if (hiddenCount >= hiddenNames.length || hiddenCount >= hiddenCells.length || hiddenCount < 0) return;
            hiddenNames[hiddenCount] = name;
            hiddenCells[hiddenCount] = cell;
            hiddenCount++;
        }

        private long hiddenName(int i) {
            return i >= 0 && i < hiddenCount && i < hiddenNames.length ? hiddenNames[i] : 0;
        }

        private int hiddenCell(int i) {
            return i >= 0 && i < hiddenCount && i < hiddenCells.length ? hiddenCells[i] : NO_CELL;
        }

        /** Which copy of the transaction a global is; NONE. */
        private int copyOf(long name) {
            for (int i = 0; i < copyCount && i < copies.length; i++) if (copies[i] == name) return i;
            return NONE;
        }

        private void mark(long name, int how) {
            int i = copyOf(name);
            if (i >= 0 && i < marks.length) marks[i] |= how;
        }

        private boolean changedByOthers() {
            for (int i = 0; i < copyCount && i < marks.length; i++) if ((marks[i] & CHANGED_BY_OTHERS) != 0) return true;
            return false;
        }

        /** Whether a name stands in a list in a text, which begins behind its bracket. */
        private static boolean lists(Text t, int place, long name) {
            int at = place;
            for (int i = 0; i < MOST_LIST; i++) {
                long n = t.nameAt(at);
                if (n == 0) return false;
                if (n == name) return true;
                at = t.behindName(at);
            }
            return false;
        }
    }

    /** What lasts: globals, routines, the disk; and what all processes share: locks, the time, the turns. */
    private static final class House {
        private final Tree globals = new Tree(MOST_GLOBALS, true);
        private final Text[] routines = Text.many(MOST_ROUTINES, MOST_TEXT, MOST_LINES);
        private int routineCount;
        /** What is read next as a routine comes here first. */
        private Text spare = new Text(MOST_TEXT, MOST_LINES);
        private final byte[] blocks = new byte[BLOCKS * BLOCK];
        private final byte[] fresh = new byte[BLOCK];
        private int used;
        private final Row waiting = new Row(BLOCKS * LOAD);
        private int units;
        private int cutAt = NONE;
        private int tear;
        private int torn;
        private boolean down;
        private final Node[] locks = Node.many(MOST_LOCKS);
        private int lockCount;
        private int second;
        private long x;
        private final int[] counts = new int[COMMITS + 1];

        private Text routine(int i) {
            return i >= 0 && i < routineCount && i < routines.length ? routines[i] : null;
        }

        private int routineOf(long name) {
            for (int i = 0; i < routineCount; i++) {
                Text t = routine(i);
                if (t != null && t.name == name) return i;
            }
            return NONE;
        }

        /** The text that was read becomes the routine of a name: there is room for it. */
        private void keep(long name) {
            int i = routineOf(name);
            if (i < 0) i = routineCount;
            Text old = i < routines.length ? routines[i] : null;
            if (old == null) return;
            routines[i] = spare;
            spare.name = name;
            spare = old;
            if (i == routineCount) routineCount++;
        }

        private boolean hasRoom(int bytes) {
            return (waiting.length + bytes + LOAD - 1) / LOAD <= BLOCKS - used;
        }

        private static int recordLength(Node n) {
            return 3 + nameLength(n.name) + n.length;
        }

        private static void addRecord(Row to, int type, Node n) {
            to.add(type);
            to.add(n.subscripts);
            to.add(nameLength(n.name));
            to.addName(n.name);
            for (int at = 0; at < n.length; at += 1 + n.lengthAt(at)) {
                to.add(n.lengthAt(at));
                to.addPart(n.key, at + 1, n.lengthAt(at));
            }
        }

        private static void addValue(Row to, Row value) {
            to.add(value.length);
            to.addRow(value);
        }

        private void unitIsWhole() {
            waiting.add(0);
            units++;
        }

        // ---- locks

        private Node held(int i) {
            return i >= 0 && i < lockCount && i < locks.length ? locks[i] : null;
        }

        /** Another process holds this node, or one above or below it. */
        private boolean barred(Node n, int process) {
            for (int i = 0; i < lockCount; i++) {
                Node l = held(i);
                if (l == null || l.owner == process || l.kind != n.kind) continue;
                int was = n.owner;
                n.owner = l.owner;
                int one = Node.order(l, n, true), other = Node.order(n, l, true);
                n.owner = was;
                if (one == 0 || one == 1 || other == 1) return true;
            }
            return false;
        }

        private int lockOf(Node n, int process) {
            n.owner = process;
            for (int i = 0; i < lockCount; i++) {
                Node l = held(i);
                if (l != null && l.kind == n.kind && Node.order(l, n, true) == 0) return i;
            }
            return NONE;
        }

        /** Once more; false if there is no room. */
        private boolean hold(Node n, int process) {
            Node l = held(lockOf(n, process));
            if (l == null) {
                l = lockCount >= 0 && lockCount < locks.length ? locks[lockCount] : null;
                if (l == null) return false;
                l.copy(n);
                l.owner = process;
                l.times = 0;
                lockCount++;
            }
            l.times++;
            return true;
        }

        private void letGo(int i) {
            Node l = held(i);
            if (l == null) return;
            for (int k = i; k + 1 < lockCount && k + 1 < locks.length; k++) locks[k] = locks[k + 1];
            lockCount--;
            if (lockCount < locks.length) locks[lockCount] = l;
        }

        private void letGoAll(int process) {
            for (int i = lockCount - 1; i >= 0; i--) {
                Node l = held(i);
                if (l != null && l.owner == process) letGo(i);
            }
        }

        private int locksOf(int process) {
            int n = 0;
            for (int i = 0; i < lockCount; i++) {
                Node l = held(i);
                if (l != null && l.owner == process) n++;
            }
            return n;
        }

        /** The lock before which i others come: by processes, locals first, then by their nodes. */
        private Node lockAt(int i) {
            for (int k = 0; k < lockCount; k++) {
                Node l = held(k);
                int before = 0;
                for (int j = 0; j < lockCount && l != null; j++) {
                    Node o = held(j);
                    if (o == null) continue;
                    boolean less = o.owner != l.owner ? o.owner < l.owner
                        : o.kind != l.kind ? o.kind < l.kind : Node.order(o, l, true) < 0;
                    if (less) before++;
                }
                if (before == i) return l;
            }
            return null;
        }

        // ---- the disk

        private int octetAt(int block, int i) {
            int at = (block - 1) * BLOCK + i;
            return block >= 1 && block <= BLOCKS && i >= 0 && i < BLOCK && at < blocks.length ? blocks[at] & 255 : NONE;
        }

        private static int summed(int s, int b) {
            int x = s ^ b;
            return (x << 9 | x >>> 23) * 0x9E3779B1;
        }

        /** Writes what waits: how many blocks, or LOST. */
        private int write() {
            int many = (waiting.length + LOAD - 1) / LOAD;
            for (int i = 0; i < many; i++) {
                compose(used + 1 + i, i, i == many - 1);
                int at = (used + i) * BLOCK, bytes = cutAt == 0 ? tear : BLOCK;
                if (at < 0 || at > blocks.length - BLOCK || bytes < 0 || bytes > BLOCK) return i;
                System.arraycopy(fresh, 0, blocks, at, bytes);
                if (cutAt == 0) {
                    torn = used + 1 + i;
                    cutAt = NONE;
                    down = true;
                    return LOST;
                }
                if (cutAt > 0) cutAt--;
            }
            used += many;
            waiting.clear();
            units = 0;
            return many;
        }

        private void compose(int block, int part, boolean last) {
            int bytes = Math.min(LOAD, waiting.length - part * LOAD), s = 0;
            for (int i = 0; i < SUMMED; i++) {
                int b = i < bytes + 4 ? waiting.at(part * LOAD + i - 4) : 0;
                if (i == 0) b = block >> 8;
                if (i == 1) b = block & 255;
                if (i == 2) b = last ? 1 : 0;
                if (i == 3) b = bytes;
                if (i < fresh.length) fresh[i] = (byte) b;
                s = summed(s, b & 255);
            }
            for (int i = 0; i < 4 && SUMMED + i < fresh.length; i++) fresh[SUMMED + i] = (byte) (s >>> 24 - 8 * i);
        }

        private boolean right(int block) {
            int s = 0, sum = 0, last = octetAt(block, 2), n = octetAt(block, 3);
            for (int i = 0; i < SUMMED; i++) s = summed(s, octetAt(block, i));
            for (int i = SUMMED; i < BLOCK; i++) sum = sum << 8 | octetAt(block, i);
            return block != torn && s == sum && octetAt(block, 0) * 256 + octetAt(block, 1) == block
                && (last == 0 && n == LOAD || last == 1 && n >= 1 && n <= LOAD);
        }

        /** All that does not last is gone; what is not written right becomes 0. */
        private void begin() {
            globals.clear();
            routineCount = 0;
            used = 0;
            for (int i = 1; i <= BLOCKS && right(i); i++) if (octetAt(i, 2) == 1) used = i;
            for (int i = used * BLOCK; i >= 0 && i < blocks.length; i++) blocks[i] = 0;
            torn = 0;
            cutAt = NONE;
            down = false;
            lockCount = 0;
            waiting.clear();
            units = 0;
            for (int i = 0; i < counts.length; i++) counts[i] = 0;
        }

        /** The bytes of the sync that begins at a block come into the row of what waits: the block behind it. */
        private int gather(int from) {
            waiting.clear();
            for (int b = from; b <= used; b++) {
                int n = octetAt(b, 3), at = (b - 1) * BLOCK + 4;
                if (at >= 0 && n >= 0) waiting.addPart(blocks, at, n);
                if (octetAt(b, 2) == 1) return b + 1;
            }
            return used + 1;
        }

        /** The record at a place of the row of what waits: the place behind it; 0 if it is none. */
        private int behindRecord(int at, Node node, Row value) {
            Row w = waiting;
            int type = w.at(at), p = at + 1, many = type == ROUTINE_RECORD ? 0 : w.at(p++);
            int n = w.at(p++);
            if (type < SET_RECORD || type > ROUTINE_RECORD || many < 0 || many > MOST_SUBSCRIPTS || n < 1 || n > LONGEST_NAME) return 0;
            for (int i = 0; i < n; i++) {
                int c = w.at(p + i);
                if (!(i == 0 ? beginsName(c) : goesOnName(c))) return 0;
            }
            node.begin(A_GLOBAL, packed(w.bytes, p, p + n));
            p += n;
            for (int i = 0; i < many; i++) {
                int k = w.at(p);
                if (k < 1 || k > LONGEST_SUBSCRIPT || p + 1 + k > w.length) return 0;
                node.add(w.bytes, p + 1, k);
                p += 1 + k;
            }
            if (!node.canBe()) return 0;
            if (type == KILL_RECORD) return p;
            int size = w.at(p++);
            if (type == ROUTINE_RECORD) size = size * 256 + w.at(p++);
            if (size < 0 || size > (type == SET_RECORD ? LONGEST : MOST_TEXT) || p + size > w.length) return 0;
            value.clear();
            if (type == SET_RECORD) value.addPart(w.bytes, p, size);
            else if (!spare.load(w.bytes, p, size)) return 0;
            return p + size;
        }
    }

    /** What the processes do: it works the words of their texts' code, a turn after another. */
    private static final class Machine {
        private final House house;
        private final Tree locals = new Tree(MOST_LOCALS, false);
        /** How many names, seen, hidden and kept, each cell of locals has. */
        private final int[] references = new int[MOST_CELLS];
        private final Proc[] procs = Proc.many(MOST_PROCESSES);
        private int procCount;
        private final Work[] works = Work.many(MOST_LIVING);
        private Proc proc;
        private Work work;
        private int phase = STOPPED;
        /** Whether this turn began its command already. */
        private boolean begun;
        private int error;
        /** The node that was last met, and whose tree it is in. */
        private final Node met = new Node();
        private final Node other = new Node();
        private final Num a = new Num(62);
        private final Num b = new Num(0);
        private final Row out = new Row(LONGEST);
        private final Row given = new Row(LONGEST);
        private final long[] sets = new long[32];
        private final int[] ids = new int[MOST_GLOBALS];

        private Machine(House h) {
            house = h;
        }

        private void begin() {
            procCount = 0;
            locals.clear();
            for (int i = 0; i < references.length; i++) references[i] = 0;
            for (int i = 0; i < procs.length; i++) if (procs[i] != null) procs[i].work = null;
            proc = null;
            work = null;
        }

        private Proc proc(int i) {
            return i >= 0 && i < procCount && i < procs.length ? procs[i] : null;
        }

        /** A living process; null if it is none. */
        private Proc living(int i) {
            Proc p = proc(i);
            return p != null && p.work != null ? p : null;
        }

        private int livingCount() {
            int n = 0;
            for (int i = 0; i < procCount; i++) if (living(i) != null) n++;
            return n;
        }

        private boolean isBusy(Work w) {
            for (int i = 0; i < procCount && w != null; i++) {
                Proc p = procs[i];
                if (p != null && p.work == w) return true;
            }
            return false;
        }

        /** A process more; null if there is no room. */
        private Proc create() {
            int slot = 0;
            while (slot < works.length && isBusy(works[slot])) slot++;
            Work w = slot < works.length ? works[slot] : null;
            Proc p = procCount >= 0 && procCount < procs.length ? procs[procCount] : null;
            if (w == null || p == null) return null;
            w.begin();
            p.begin(procCount, w);
            procCount++;
            return p;
        }

        private void fail(int code) {
            if (error == 0) error = code;
        }

        // ---- turns

        /** Whose turn it is: NONE if none is living, 0 if it is IDLE, 1 if it goes on. */
        private int choose() {
            int living = livingCount();
            if (living < 1) return NONE;
            house.x = next(house.x);
            int k = (int) ((house.x >>> 33) % living);
            Proc chosen = null;
            for (int i = 0; i < procCount; i++) {
                Proc p = living(i);
                if (p != null && k-- == 0) chosen = p;
            }
            if (chosen == null || chosen.work == null || chosen.work.text == null) return NONE;
            proc = chosen;
            work = chosen.work;
            house.counts[TURNS]++;
            error = 0;
            phase = GOING;
            begun = proc.wait != RUNNING;
            if (!begun || ready()) return 1;
            house.counts[IDLE]++;
            phase = STOPPED;
            return 0;
        }

        /** Whether what waits need wait no more. */
        private boolean ready() {
            if (house.second >= proc.deadline) return true;
            if (proc.wait == FOR_LINE) return work.toldCount > 0;
            return proc.wait == FOR_LOCKS && !barred(work.text.word(work.place) >>> 10 & 31);
        }

        private boolean barred(int many) {
            for (int i = 1; i <= many; i++) {
                Node n = work.node(i);
                if (n != null && house.barred(n, proc.number)) return true;
            }
            return false;
        }

        /** It waits in the command that it is in, till a time if one is told. */
        private void await(int what, boolean timed, int seconds) {
            proc.wait = what;
            proc.deadline = timed ? (long) house.second + seconds : NEVER;
            work.place--;
            phase = STOPPED;
        }

        /** The next word of the code. */
        private int fetch() {
            int word = work.text.word(work.place);
            work.place++;
            return word;
        }

        private void readingEnded(boolean right) {
            phase = GOING;
            if (!right) fail(BAD_TEXT);
        }

        private void addCode() {
            if (error != AGAIN) {
                out.clear();
                if (proc.code.length == 0) out.add(',');
                out.add(error > ERROR_Z ? 'Z' : 'M');
                out.addWhole(error % ERROR_Z);
                out.add(',');
                proc.code.addRow(out);
            }
            error = 0;
        }

        /** An error: the highest level's trap, or it is over and it is an error again below. */
        private void unwind() {
            addCode();
            Level l = work.top();
            if (l != null && l.trap.length > 0 && !l.trapped) {
                l.trapped = true;
                work.giveUp(l);
                work.dropLoops(l.loops);
                l.trapText.load(l.trap.bytes, 0, l.trap.length);
                goOn(l, l.trapText, 0, 0);
                phase = READING + A_LINE;
                return;
            }
            pop();
            if (work.levelCount == 0) dismiss(proc, OVER_BY_ERROR);
            else error = AGAIN;
        }

        /** The highest level is at a place of a line from now on. */
        private void goOn(Level l, Text t, int line, int place) {
            l.text = t;
            l.line = line;
            work.text = t;
            work.place = place;
            phase = GOING;
        }

        private void pop() {
            Level l = work.top();
            if (l == null) return;
            unhide(work.scope, l.hidden);
            if (l.kind == BLOCK_LEVEL || l.kind == VALUE_LEVEL) proc.test = l.test;
            work.giveUp(l);
            work.dropLoops(l.loops);
            work.levelCount--;
            if (work.scope.level == work.levelCount) work.scope.gone |= LEVEL_GONE;
        }

        private void endLine() {
            Level l = work.top();
            if (l == null) return;
            work.giveUp(l);
            work.text = l.text;
            if (work.loopCount > l.loops) {
                nextRound(work.loopCount - 1);
                return;
            }
            phase = LEVEL_OVER;
            if (l.text.name == 0) return;
            for (int i = l.line + 1; i < l.text.lines; i++) {
                int level = l.text.levelOf(i);
                if (l.kind == BLOCK_LEVEL && level < l.block) return;
                if (level == l.block) {
                    goOn(l, l.text, i, l.text.codeOf(i));
                    return;
                }
            }
        }

        private void endLevel(boolean valued) {
            Level l = work.top();
            if (l == null) return;
            boolean failed = l.trapped && proc.code.length > 0, value = l.kind == VALUE_LEVEL;
            phase = GOING;
            if (value && !valued && !l.trapped) {
                fail(17);
                return;
            }
            pop();
            if (work.levelCount == 0) {
                dismiss(proc, failed ? OVER_BY_ERROR : OVER);
            } else if (failed) {
                fail(AGAIN);
            } else {
                work.text = l.back;
                work.place = l.backPlace;
                if (!value) return;
                Row r = push();
                if (r != null && valued) r.copy(given);
            }
        }

        /** A process is over: nothing of it stays but what it wrote and its $ECODE. */
        private void dismiss(Proc p, int status) {
            Work w = p.work;
            if (w == null) return;
            house.letGoAll(p.number);
            endTransaction(p);
            p.restarts = 0;
            Scope s = w.scope;
            for (int i = 0; i < s.count; i++) release(s.cellAt(i));
            for (int i = 0; i < s.hiddenCount; i++) release(s.hiddenCell(i));
            p.work = null;
            p.status = status;
            p.wait = RUNNING;
            phase = STOPPED;
        }

        // ---- cells of locals

        private int newCell() {
            for (int i = 0; i < references.length; i++) {
                if (references[i] == 0) {
                    references[i] = 1;
                    return i;
                }
            }
            return NO_CELL;
        }

        private int referencesOf(int cell) {
            return cell >= 0 && cell < references.length ? references[cell] : 0;
        }

        /** A cell has a name less; without any its values go. */
        private void release(int cell) {
            if (cell < 0 || cell >= references.length || references[cell] < 1) return;
            references[cell]--;
            if (references[cell] == 0 && locals.runOf(cell) > 0) locals.removeRun();
        }

        /** A cell without values that is not one with another is none: its name is not kept. */
        private void tidy(Scope s, int cell) {
            if (referencesOf(cell) != 1 || locals.runOf(cell) > 0) return;
            int i = s.nameOf(cell);
            if (i < 0) return;
            s.unbind(i);
            references[cell] = 0;
        }

        private void hide(Scope s, long name) {
            int i = s.place(name), cell = s.cell(name);
            if (cell >= 0) s.unbind(i);
            s.pushHidden(name, cell);
        }

        /** What was hidden comes back, up to so many. */
        private void unhide(Scope s, int left) {
            for (int i = s.hiddenCount - 1; i >= left; i--) {
                long name = s.hiddenName(i);
                int cell = s.hiddenCell(i);
                if (cell == ALL_HIDDEN) {
                    dropOthers(s, i, (int) name);
                } else if (cell != KEPT_NAME) {
                    int old = s.cell(name);
                    if (old >= 0) s.unbind(s.place(name));
                    release(old);
                    tidy(s, old);
                    if (cell >= 0) s.bind(name, cell);
                    tidy(s, cell);
                }
                s.hiddenCount = i;
            }
        }

        /** All locals go but those whose names are so many before a place of what is hidden. */
        private void dropOthers(Scope s, int place, int many) {
            for (int k = s.count - 1; k >= 0; k--) {
                boolean kept = false;
                for (int i = place - many; i < place; i++) kept = kept || s.hiddenName(i) == s.nameAt(k);
                int cell = s.cellAt(k);
                if (!kept) {
                    s.unbind(k);
                    release(cell);
                }
            }
            for (int k = s.count - 1; k >= 0; k--) tidy(s, s.cellAt(k));
        }

        // ---- expressions

        private Row push() {
            Row r = work.push();
            if (r == null) fail(NO_ROOM);
            return r;
        }

        private static void setTruth(Row r, boolean is) {
            r.clear();
            r.add(is ? '1' : '0');
        }

        /** Reads the number of the string so deep. */
        private void number(Num to, int depth) {
            Row r = work.string(depth);
            if (r == null) return;
            int wrong = to.read(r.bytes, 0, r.length);
            if (wrong != 0) fail(wrong);
        }

        private int whole(int depth) {
            number(a, depth);
            return error == 0 ? a.whole() : 0;
        }

        private void expression(int op, int arg) {
            switch (op) {
                case STRING: literal(arg); break;
                case NUMBER:
                    int wrong = a.read(work.text.bytes, arg, work.text.length);
                    if (wrong != 0) {
                        fail(wrong);
                    } else {
                        Row r = push();
                        if (r != null) a.text(r);
                    }
                    break;
                case SIGN: sign(arg); break;
                case OPERATE: operate(arg & 31, (arg & NOT) != 0); break;
                case MATCH: match(arg); break;
                case MATCH_AT: enterAt(A_PATTERN); break;
                case LOCAL: makeNode(A_LOCAL, work.text.nameAt(arg & 4095), arg >> 12); break;
                case GLOBAL: makeNode(A_GLOBAL, work.text.nameAt(arg & 4095), arg >> 12); break;
                case NAKED: makeNode(A_NAKED, 0, arg); break;
                case AT_REF: enterAt(A_REF); break;
                case EXTEND: extend(work.node(1), arg); break;
                case VALUE: value(); break;
                case JUMP: work.place = arg; break;
                case JUMP_FALSE: case JUMP_TRUE:
                    number(a, 1);
                    work.drop(1);
                    if (error == 0 && a.m != 0 == (op == JUMP_TRUE)) work.place = arg;
                    break;
                case NO_CHOICE: fail(4); break;
                case ACTUAL_NAME:
                    Row name = push();
                    if (name == null) break;
                    name.addName(work.text.nameAt(arg));
                    name.kind = AN_ACTUAL_NAME;
                    break;
                case ACTUAL_NONE:
                    Row none = push();
                    if (none != null) none.kind = NO_ACTUAL;
                    break;
                case SPECIAL: special(arg); break;
                case EMPTY: push(); break;
                case GET: get(arg); break;
                case FUNCTION: function(arg & 255, arg >> 8); break;
                case NODE_FUNCTION: nodeFunction(arg & 255, arg >> 8); break;
                default: break;
            }
        }

        private void literal(int place) {
            Row r = push();
            Text t = work.text;
            for (int i = place + 1; r != null && i < t.length && r.length < LONGEST; i++) {
                if (t.byteAt(i) == '"') {
                    i++;
                    if (t.byteAt(i) != '"') return;
                }
                r.add(t.byteAt(i));
            }
        }

        private void sign(int sign) {
            Row r = work.string(1);
            number(a, 1);
            if (r == null || error != 0) return;
            if (sign == '\'') {
                setTruth(r, a.m == 0);
            } else {
                if (sign == '-') a.m = -a.m;
                r.clear();
                a.text(r);
            }
        }

        private void operate(int op, boolean not) {
            Row x = work.string(2), y = work.string(1);
            if (x == null || y == null) return;
            if (op == O_JOIN) {
                if (!x.addRow(y)) fail(TOO_LONG);
            } else if (op <= O_MODULO || op == O_POWER) {
                number(a, 2);
                if (error == 0) number(b, 1);
                if (error == 0) calculate(op);
                x.clear();
                a.text(x);
            } else {
                boolean is = compare(op, x, y);
                setTruth(x, is != not);
            }
            x.kind = 0;
            work.drop(1);
        }

        private void calculate(int op) {
            int wrong = 0;
            switch (op) {
                case O_SUBTRACT:
                    b.m = -b.m;
                    wrong = a.add(b);
                    break;
                case O_ADD: wrong = a.add(b); break;
                case O_MULTIPLY: wrong = a.multiply(b.m, b.e); break;
                case O_DIVIDE: wrong = a.divide(b, false); break;
                case O_WHOLE: wrong = a.divide(b, true); break;
                case O_MODULO: wrong = a.modulo(b); break;
                default: wrong = a.power(b); break;
            }
            if (wrong != 0) fail(wrong);
        }

        private boolean compare(int op, Row x, Row y) {
            if (op == O_EQUAL) return x.same(y);
            if (op == O_HOLDS) return x.find(y, 0) >= 0;
            if (op == O_BEHIND) return x.compare(y) > 0;
            if (op == O_SORTS) return sortsBehind(x, y);
            number(a, 2);
            if (error == 0) number(b, 1);
            if (op == O_LESS) return a.compare(b) < 0;
            if (op == O_GREATER) return a.compare(b) > 0;
            return op == O_AND ? a.m != 0 && b.m != 0 : a.m != 0 || b.m != 0;
        }

        private boolean sortsBehind(Row x, Row y) {
            if (x.length == 0 || y.length == 0) return x.length > 0;
            boolean canonic = Num.canonic(y.bytes, 0, y.length);
            if (canonic != Num.canonic(x.bytes, 0, x.length)) return canonic;
            if (!canonic) return x.compare(y) > 0;
            number(a, 2);
            number(b, 1);
            return a.compare(b) > 0;
        }

        /** The text that is the last string is worked as what is told, then it goes on here. */
        private void enterAt(int what) {
            Row s = work.string(1);
            Text t = work.nextAt();
            if (t == null || s == null || !t.load(s.bytes, 0, s.length)) {
                fail(NO_ROOM);
                return;
            }
            t.back = work.text;
            t.backPlace = work.place;
            work.drop(1);
            work.atCount++;
            work.text = t;
            work.place = 0;
            phase = READING + what;
        }

        private void leaveAt() {
            Text t = work.text;
            work.atCount = Math.max(0, work.atCount - 1);
            work.text = t.back;
            work.place = t.backPlace;
        }

        // ---- nodes

        private void makeNode(int kind, long name, int subscripts) {
            Node n = work.pushNode(kind, name);
            if (n == null) fail(NO_ROOM);
            else extend(n, subscripts);
        }

        private void extend(Node n, int subscripts) {
            for (int i = subscripts; i > 0 && n != null; i--) {
                Row s = work.string(i);
                if (s != null) n.add(s.bytes, 0, s.length);
            }
            work.drop(subscripts);
        }

        /** The node as it is when it is used, a NAKED one made out; false if it can't be. */
        private boolean makeOut(Node n, Node to, boolean mayBeEmpty) {
            if (n.kind == A_NAKED) {
                if (work.naked.kind != A_GLOBAL || work.naked.subscripts < 1) {
                    fail(1);
                    return false;
                }
                to.copy(work.naked);
                to.dropLast();
                to.addBehind(n, 0, n.subscripts);
                to.bad = to.bad || n.bad;
                to.lastEmpty = n.lastEmpty;
            } else {
                to.copy(n);
            }
            if (to.canBe() && (mayBeEmpty || !to.lastEmpty)) return true;
            fail(BAD_NODE);
            return false;
        }

        private boolean meet(Node n, boolean mayBeEmpty) {
            if (n == null || !makeOut(n, met, mayBeEmpty)) return false;
            if (met.kind == A_LOCAL) {
                met.owner = work.scope.cell(met.name);
                return true;
            }
            work.naked.copy(met);
            met.owner = 0;
            if (proc.depth > 0) {
                copyGlobal(met.name);
                met.owner = work.owner;
            }
            return error == 0;
        }

        /** A global that a transaction meets first is copied. */
        private void copyGlobal(long name) {
            Scope s = work.scope;
            if (s.copyOf(name) >= 0) return;
            other.begin(A_GLOBAL, name);
            int i = s.copyCount;
            if (i < 0 || i >= s.copies.length || i >= s.marks.length || !house.globals.hasRoom(house.globals.run(other))) {
                fail(NO_ROOM);
                return;
            }
            house.globals.copyRun(other, work.owner);
            s.copies[i] = name;
            s.marks[i] = 0;
            s.copyCount = i + 1;
        }

        private Tree tree(Node n) {
            return n.kind == A_LOCAL ? locals : house.globals;
        }

        private void value() {
            boolean is = meet(work.node(1), false);
            work.dropNodes(1);
            if (!is) return;
            Row v = tree(met).find(met);
            if (v == null) {
                fail(met.kind == A_LOCAL ? 6 : 7);
                return;
            }
            Row r = push();
            if (r != null) r.copy(v);
        }

        private void get(int behind) {
            boolean is = meet(work.node(1), false);
            work.dropNodes(1);
            Row v = is ? tree(met).find(met) : null;
            if (v == null) return;
            Row r = push();
            if (r != null) r.copy(v);
            work.place = behind;
        }

        private void nodeFunction(int function, int arguments) {
            int n = arguments > 0 ? whole(1) : function == F_ORDER ? 1 : MOST_SUBSCRIPTS;
            Node node = work.node(1);
            boolean ordered = function == F_ORDER || function == F_QUERY;
            if (node == null || error != 0) return;
            if (function == F_ORDER && n != 1 && n != -1 || function == F_NAME && n < 0) {
                fail(TOO_GREAT);
                return;
            }
            out.clear();
            if (function == F_ORDER && node.kind != A_NAKED && node.subscripts == 0 && !node.bad) {
                nameBeside(node.kind, node.name, n, proc.depth > 0);
            } else if (meet(node, ordered)) {
                if (function == F_DATA) out.addWhole(tree(met).data(met));
                else if (function == F_NAME) met.text(out, n);
                else if (function == F_ORDER) subscriptBeside(n);
                else nodeBehind();
            }
            work.drop(arguments);
            work.dropNodes(1);
            Row r = error == 0 ? push() : null;
            if (r != null) r.copy(out);
        }

        /** The subscript behind (or before) the last one of the node that was met. */
        private void subscriptBeside(int direction) {
            Tree t = tree(met);
            int last = met.subscripts - 1, i = 0;
            boolean none = met.lastEmpty;
            if (none) met.dropLast();
            if (direction > 0) i = t.place(met, none ? AFTER : BELOW);
            else i = t.place(met, none ? BELOW : AT) - 1;
            if (!none) met.dropLast();
            Node n = t.node(i);
            if (n != null && t.standing(i, met) == 1) n.addSubscript(last, out);
        }

        private void nodeBehind() {
            Tree t = tree(met);
            if (met.lastEmpty) met.dropLast();
            Node n = t.node(t.place(met, AFTER));
            if (n == null || n.owner != met.owner || met.kind == A_GLOBAL && n.name != met.name) return;
            other.copy(n);
            other.kind = met.kind;
            other.name = met.name;
            other.text(out, MOST_SUBSCRIPTS);
        }

        /** The name behind (or before) a name of a local, or of a global as a transaction or the house has it. */
        private void nameBeside(int kind, long name, int direction, boolean copies) {
            if (kind == A_GLOBAL) {
                long one = globalBeside(name, direction, 0);
                for (int i = 0; copies && i <= MOST_COPIES && one != 0 && work.scope.copyOf(one) >= 0; i++) {
                    one = globalBeside(one, direction, 0);
                }
                long two = copies ? globalBeside(name, direction, work.owner) : 0;
                boolean second = two != 0 && (one == 0 || Long.compare(two, one) < 0 == direction > 0);
                if (one != 0 || two != 0) out.add('^');
                out.addName(second ? two : one);
                return;
            }
            Scope s = work.scope;
            int i = s.place(name);
            if (direction < 0 || s.nameAt(i) == name && i < s.count) i += direction;
            while (i >= 0 && i < s.count && locals.runOf(s.cellAt(i)) == 0) i += direction;
            out.addName(s.nameAt(i));
        }

        private long globalBeside(long name, int direction, int owner) {
            Tree t = house.globals;
            other.begin(A_GLOBAL, name);
            other.owner = owner;
            Node n = t.node(direction > 0 ? t.place(other, BELOW) : t.place(other, AT) - 1);
            return n != null && n.owner == owner ? n.name : 0;
        }

        // ---- functions

        private void special(int special) {
            Row r = push();
            Level l = work.top();
            if (r == null || l == null) return;
            switch (special) {
                case S_ECODE: r.addRow(proc.code); break;
                case S_ETRAP: r.addRow(l.trap); break;
                case S_HOROLOG:
                    r.addWhole(house.second / DAY);
                    r.add(',');
                    r.addWhole(house.second % DAY);
                    break;
                case S_JOB: r.addWhole(proc.number); break;
                case S_QUIT: r.addWhole(l.kind == VALUE_LEVEL ? 1 : 0); break;
                case S_STACK: r.addWhole(work.levelCount - 1); break;
                case S_TEST: r.addWhole(proc.test); break;
                case S_TLEVEL: r.addWhole(proc.depth); break;
                case S_TRESTART: r.addWhole(proc.restarts); break;
                case S_X: r.addWhole(proc.x); break;
                default: r.addWhole(proc.y); break;
            }
        }

        private void function(int function, int arguments) {
            Row s = work.string(arguments), t = work.string(arguments - 1);
            out.clear();
            if (s == null) return;
            switch (function) {
                case F_ASCII: out.addWhole(s.at(arguments > 1 ? whole(1) - 1 : 0)); break;
                case F_CHAR:
                    for (int i = arguments; i > 0; i--) {
                        int c = whole(i);
                        if (c >= 0 && c <= 255) out.add(c);
                    }
                    break;
                case F_EXTRACT: extract(s, arguments); break;
                case F_FIND: if (t != null) find(s, t, arguments); break;
                case F_FNUMBER: if (t != null) format(t); break;
                case F_JUSTIFY: justify(s, arguments); break;
                case F_LENGTH: out.addWhole(arguments > 1 && t != null ? pieces(s, t) : s.length); break;
                case F_PIECE: if (t != null) piece(s, t, arguments); break;
                case F_QLENGTH:
                    if (!other.read(s, given) || other.lastEmpty) fail(BAD_TEXT);
                    out.addWhole(other.subscripts);
                    break;
                case F_QSUBSCRIPT:
                    int n = whole(1);
                    if (!other.read(s, given) || other.lastEmpty) fail(BAD_TEXT);
                    if (n == 0) other.text(out, 0);
                    if (n > 0) other.addSubscript(n - 1, out);
                    break;
                case F_RANDOM:
                    int below = whole(1);
                    if (below < 1) {
                        fail(3);
                    } else {
                        proc.stream = next(proc.stream);
                        out.addWhole((proc.stream >>> 33) % below);
                    }
                    break;
                case F_REVERSE: for (int i = s.length - 1; i >= 0; i--) out.add(s.at(i)); break;
                default: if (t != null) translate(s, t, arguments > 2 ? work.string(1) : null); break;
            }
            work.drop(arguments - 1);
            if (error == 0) s.copy(out);
        }

        private void extract(Row s, int arguments) {
            int n = arguments > 1 ? whole(arguments - 1) : 1, m = arguments > 2 ? whole(1) : n;
            int from = Math.max(n, 1), to = Math.min(m, s.length);
            if (from <= to) out.addPart(s.bytes, from - 1, to - from + 1);
        }

        private void find(Row s, Row t, int arguments) {
            int n = Math.max(1, arguments > 2 ? whole(1) : 1);
            int i = n <= s.length + 1 ? s.find(t, n - 1) : NONE;
            out.addWhole(i < 0 ? 0 : i + t.length + 1);
        }

        private void format(Row how) {
            boolean commas = false, plus = false, bare = false;
            for (int i = 0; i < how.length; i++) {
                commas = commas || how.at(i) == ',';
                plus = plus || how.at(i) == '+';
                bare = bare || how.at(i) == '-';
            }
            number(a, 2);
            if (a.m < 0 && !bare) out.add('-');
            if (a.m > 0 && plus) out.add('+');
            a.m = Math.abs(a.m);
            given.clear();
            a.text(given);
            int whole = 0;
            while (whole < given.length && given.at(whole) != '.') whole++;
            for (int i = 0; i < given.length; i++) {
                if (commas && i > 0 && i < whole && (whole - i) % 3 == 0) out.add(',');
                out.add(given.at(i));
            }
        }

        private void justify(Row s, int arguments) {
            int n = whole(arguments - 1), places = arguments > 2 ? whole(1) : 0;
            given.clear();
            if (arguments > 2) {
                if (places < 0 || places > 30) fail(TOO_GREAT);
                number(a, 3);
                if (error == 0) a.fixed(given, places);
            } else {
                given.addRow(s);
            }
            if (n > LONGEST && n > given.length) fail(TOO_LONG);
            if (error != 0) return;
            out.addMany(' ', n - given.length);
            out.addRow(given);
        }

        private static int pieces(Row s, Row t) {
            if (t.length == 0) return 0;
            int n = 1;
            for (int i = s.find(t, 0); i >= 0; i = s.find(t, i + t.length)) n++;
            return n;
        }

        /** Where piece n begins; behind the end and a t if there is none. */
        private static int pieceAt(Row s, Row t, int n) {
            int at = 0;
            for (int i = 1; i < n && at <= s.length; i++) {
                int k = s.find(t, at);
                at = k < 0 ? s.length + t.length + 1 : k + t.length;
            }
            return at;
        }

        private void piece(Row s, Row t, int arguments) {
            int n = arguments > 2 ? whole(arguments - 2) : 1, m = arguments > 3 ? whole(1) : n;
            int first = Math.max(n, 1);
            if (t.length == 0 || m < first || error != 0) return;
            int from = pieceAt(s, t, first), to = Math.min(s.length, pieceAt(s, t, m + 1) - t.length);
            if (from <= to) out.addPart(s.bytes, from, to - from);
        }

        private void translate(Row s, Row t, Row u) {
            for (int i = 0; i < s.length; i++) {
                int c = s.at(i), k = 0;
                while (k < t.length && t.at(k) != c) k++;
                if (k == t.length) out.add(c);
                else if (u != null && k < u.length) out.add(u.at(k));
            }
        }

        // ---- patterns: sets of places, four words each, of the outer pattern and behind it of the one in brackets

        private void match(int place) {
            Row s = work.string(1);
            if (s == null) return;
            for (int i = 0; i < sets.length; i++) sets[i] = 0;
            sets[0] = 1;
            parts(s, place, 0);
            int last = s.length >> 6;
            setTruth(s, last < 4 && (sets[last] >>> (s.length & 63) & 1) != 0);
        }

        /** From the set at a place of the row on to where the pattern leads: the place behind the pattern. */
        private int parts(Row s, int from, int set) {
            Text t = work.text;
            int at = from;
            while (at < t.length && (isDigit(t.byteAt(at)) || t.byteAt(at) == '.')) {
                int low = 0, high = 0;
                boolean exact = isDigit(t.byteAt(at));
                for (; isDigit(t.byteAt(at)); at++) low = low * 10 + t.byteAt(at) - '0';
                if (t.byteAt(at) == '.') {
                    at++;
                    exact = false;
                    if (!isDigit(t.byteAt(at))) high = LONGEST + low;
                    for (; isDigit(t.byteAt(at)); at++) high = high * 10 + t.byteAt(at) - '0';
                }
                if (exact) high = low;
                if (t.byteAt(at) == '(' && set == 0) {
                    at = repeat(s, at + 1, low, high);
                } else if (t.byteAt(at) == '"') {
                    at = fitString(s, at, set, low, high);
                } else {
                    int behind = at;
                    while (behind < t.length && Text.codes(t.byteAt(behind)) != 0) behind++;
                    for (int k = 0; k < 4; k++) sets[set + 4 + k] = 0;
                    for (int i = 0; i < s.length; i++) if (fits(s.at(i), at, behind)) sets[set + 4 + (i >> 6)] |= 1L << (i & 63);
                    advance(set, 1, low, high);
                    at = behind;
                }
            }
            return at;
        }

        private boolean fits(int c, int from, int behind) {
            boolean letter = c >= 'A' && c <= 'Z' || c >= 'a' && c <= 'z', digit = c >= '0' && c <= '9';
            for (int i = from; i < behind; i++) {
                switch (Text.codes(work.text.byteAt(i))) {
                    case 'A': if (letter) return true; break;
                    case 'C': if (c < 32 || c == 127) return true; break;
                    case 'E': return true;
                    case 'L': if (letter && c >= 'a') return true; break;
                    case 'N': if (digit) return true; break;
                    case 'P': if (c >= 32 && c <= 126 && !letter && !digit) return true; break;
                    default: if (letter && c < 'a') return true; break;
                }
            }
            return false;
        }

        /** A part that is a string at a place: the place behind it. */
        private int fitString(Row s, int place, int set, int low, int high) {
            given.clear();
            int at = place + 1;
            for (; at < work.text.length; at++) {
                if (work.text.byteAt(at) == '"') {
                    at++;
                    if (work.text.byteAt(at) != '"') break;
                }
                given.add(work.text.byteAt(at));
            }
            for (int k = 0; k < 4; k++) sets[set + 4 + k] = 0;
            for (int i = s.find(given, 0); i >= 0 && i < 256; i = s.find(given, i + 1)) sets[set + 4 + (i >> 6)] |= 1L << (i & 63);
            if (given.length > 0) advance(set, given.length, low, high);
            else if (low > high) for (int k = 0; k < 4; k++) sets[set + k] = 0;
            return at;
        }

        /** So many times so many bytes on, from places that are in the mask (behind the set); what is reached is gathered behind that. */
        private void advance(int set, int bytes, int low, int high) {
            for (int k = 0; k < 4; k++) sets[set + 8 + k] = 0;
            boolean some = true;
            for (int n = 0; n <= high && some; n++) {
                if (n >= low) for (int k = 0; k < 4; k++) sets[set + 8 + k] |= sets[set + k];
                some = false;
                int words = bytes >> 6, bits = bytes & 63;
                for (int k = 3; k >= 0; k--) {
                    long v = 0;
                    if (k >= words) v = (sets[set + k - words] & sets[set + 4 + k - words]) << bits;
                    if (k > words && bits > 0) v |= (sets[set + k - words - 1] & sets[set + 3 + k - words]) >>> 64 - bits;
                    sets[set + 12 + k] = v;
                }
                for (int k = 0; k < 4; k++) {
                    sets[set + k] = sets[set + 12 + k];
                    some = some || sets[set + k] != 0;
                }
            }
            for (int k = 0; k < 4; k++) sets[set + k] = sets[set + 8 + k];
        }

        /** So many times one of the choices that stand behind a bracket: the place behind them. */
        private int repeat(Row s, int place, int low, int high) {
            for (int k = 0; k < 4; k++) sets[8 + k] = 0;
            int behind = place;
            boolean some = true;
            for (int n = 0; n <= high && some || n == 0; n++) {
                if (n >= low && n <= high) for (int k = 0; k < 4; k++) sets[8 + k] |= sets[k];
                for (int k = 0; k < 4; k++) sets[12 + k] = 0;
                behind = place;
                for (int i = place; i < work.text.length; i++) {
                    for (int k = 0; k < 4; k++) sets[16 + k] = sets[k];
                    behind = parts(s, behind, 16);
                    for (int k = 0; k < 4; k++) sets[12 + k] |= sets[16 + k];
                    if (work.text.byteAt(behind) != ',') break;
                    behind++;
                }
                some = false;
                boolean same = true;
                for (int k = 0; k < 4; k++) {
                    some = some || sets[12 + k] != 0;
                    same = same && sets[12 + k] == sets[k];
                    sets[k] = sets[12 + k];
                }
                // places that lead to themselves do so any number of times
                if (same && n < high && high >= low) for (int k = 0; k < 4; k++) sets[8 + k] |= sets[k];
                some = some && !same;
            }
            for (int k = 0; k < 4; k++) sets[k] = sets[8 + k];
            return work.text.byteAt(behind) == ')' ? behind + 1 : behind;
        }

        // ---- entries

        private void enter(int op, int arg) {
            int entry = work.text.word(work.place), many = (arg & 31) - 1, label = entry & 4095, named = entry >>> 12;
            work.place++;
            boolean further = (arg & 32) != 0;
            int e = further ? whole(1) : 0;
            if (further) work.drop(1);
            if (e < 0) fail(BELOW_ZERO);
            Level l = work.top();
            if (error != 0 || l == null) return;
            Text t = named > 0 ? house.routine(house.routineOf(work.text.nameAt(named - 1))) : l.text.name != 0 ? l.text : null;
            int line = NONE;
            if (t != null && label > 0) {
                line = t.lineOf(work.text.nameAt(label - 1));
                if (line >= 0) line += e;
            } else if (t != null) {
                line = further ? e - 1 : 0;
            }
            if (t != null && line >= t.lines) line = NONE;
            if (op == TEXT_OF) {
                pushLine(t, line, label == 0 && further && e == 0);
            } else if (t == null || line < 0) {
                fail(NO_ENTRY);
            } else if (op == GOTO) {
                goTo(l, t, line);
            } else {
                call(op, t, line, many);
            }
        }

        private void pushLine(Text t, int line, boolean nameOnly) {
            Row r = push();
            if (r == null || t == null) return;
            if (nameOnly) r.addName(t.name);
            else if (line >= 0 && !r.addPart(t.bytes, t.startOf(line), t.lengthOf(line))) fail(TOO_LONG);
        }

        private void goTo(Level l, Text t, int line) {
            boolean routine = l.text.name != 0;
            int here = routine ? l.text.levelOf(l.line) : 1;
            boolean right = t.levelOf(line) == here && (here == 1 || t == l.text);
            for (int i = Math.min(line, l.line); here > 1 && i <= Math.max(line, l.line); i++) right = right && t.levelOf(i) >= here;
            if (!right) {
                fail(45);
                return;
            }
            work.giveUp(l);
            work.dropLoops(l.loops);
            goOn(l, t, line, t.codeOf(line));
        }

        /** DO, JOB or an EXTRINSIC of a line, with so many actuals (NONE without brackets). */
        private void call(int op, Text t, int line, int many) {
            int formals = 0, values = 0, base = Math.max(work.stringCount - Math.max(many, 0), 0);
            for (int at = t.formalsOf(line); many >= 0 && t.nameAt(at) != 0 && formals < MOST_LIST; at = t.behindName(at)) formals++;
            for (int i = many; i > 0; i--) {
                Row r = work.string(i);
                if (r != null && r.kind == 0) values++;
            }
            if (many > formals || many >= 0 && t.formalsOf(line) == 0) {
                fail(BAD_ACTUALS);
                return;
            }
            boolean room = locals.hasRoom(values);
            Work to = work;
            if (op == JOB) {
                Proc p = room ? create() : null;
                to = p == null ? null : p.work;
            } else if (!room || work.scope.hiddenCount + formals > MOST_HIDDEN || work.levelCount >= MOST_LEVELS) {
                to = null;
            }
            if (to == null) {
                fail(NO_ROOM);
                return;
            }
            for (int i = 0; i < many; i++) ids[i] = cellOf(work.string(many - i));
            work.drop(Math.max(many, 0));
            Level l = to.pushLevel(op == EXTRINSIC ? VALUE_LEVEL : ENTRY_LEVEL, proc.test);
            if (l == null) return;
            l.text = t;
            l.line = line;
            to.text = t;
            to.place = t.codeOf(line);
            bindFormals(to, base, many, formals);
        }

        /** The cell of the local whose name is an actual. */
        private int cellOf(Row actual) {
            if (actual == null || actual.kind != AN_ACTUAL_NAME) return NO_CELL;
            long name = packed(actual.bytes, 0, actual.length);
            int cell = work.scope.cell(name);
            if (cell >= 0) return cell;
            cell = newCell();
            if (cell >= 0 && !work.scope.bind(name, cell)) release(cell);
            return cell;
        }

        /** Each formal of the line that was called is NEW, and has its actual; these lie in the strings from a place on. */
        private void bindFormals(Work to, int base, int many, int formals) {
            Level l = to.top();
            int at = l == null ? 0 : l.text.formalsOf(l.line);
            for (int i = 0; i < formals && l != null; i++) {
                long name = l.text.nameAt(at);
                at = l.text.behindName(at);
                hide(to.scope, name);
                Row r = i < many && base + i < work.strings.length ? work.strings[base + i] : null;
                if (r == null || r.kind == NO_ACTUAL) continue;
                boolean shared = r.kind == AN_ACTUAL_NAME;
                int cell = shared && i < ids.length ? ids[i] : newCell();
                if (cell < 0 || cell >= references.length) continue;
                if (shared) references[cell]++;
                to.scope.bind(name, cell);
                met.begin(A_LOCAL, name);
                met.owner = cell;
                if (!shared) locals.put(met, r);
            }
        }

        // ---- how lines and levels go on

        private void flow(int op, int arg) {
            Level l = work.top();
            if (l == null) return;
            switch (op) {
                case COMMAND: case ROUND:
                    if (begun) {
                        work.place--;
                        phase = STOPPED;
                    } else {
                        begun = true;
                        proc.began++;
                    }
                    break;
                case AT_END: leaveAt(); break;
                case QUIT:
                    phase = work.loopCount > l.loops ? LINE_OVER : LEVEL_OVER;
                    if (work.loopCount > l.loops) work.dropLoops(work.loopCount - 1);
                    break;
                case QUIT_WITH: quitWith(l); break;
                case DO_BLOCK: doBlock(l); break;
                case ELSE: if (proc.test == 1) phase = LINE_OVER; break;
                case IF:
                    number(a, 1);
                    if (error != 0) break;
                    work.drop(1);
                    proc.test = a.m != 0 ? 1 : 0;
                    if (a.m == 0) phase = LINE_OVER;
                    break;
                case FOR:
                    beginLoop(work.text.word(work.place) >>> 8, work.text.nameAt(arg));
                    work.place++;
                    break;
                case FOR_ALL: beginLoop(work.place, 0); break;
                case RANGE: range(arg, work.loopCount - 1); break;
                case FOR_END:
                    work.dropLoops(work.loopCount - 1);
                    phase = LINE_OVER;
                    break;
                case HALT: dismiss(proc, OVER); break;
                case HANG: hang(); break;
                case XECUTE: xecute(); break;
                case ARGUMENTS: enterAt(SOME_ARGUMENTS + arg); break;
                case TSTART:
                    beginTransaction(l, arg & 3, arg >> 2, work.text.word(work.place) >>> 8);
                    work.place++;
                    break;
                case TCOMMIT: commit(); break;
                case TRESTART: case TROLLBACK:
                    if (proc.depth == 0) {
                        fail(NO_TRANSACTION);
                    } else if (op == TRESTART) {
                        phase = RESTARTING;
                    } else {
                        endTransaction(proc);
                        proc.restarts = 0;
                    }
                    break;
                default: phase = LINE_OVER; break;
            }
        }

        private void quitWith(Level l) {
            if (l.trapped) {
                phase = LEVEL_OVER;
            } else if (l.kind != VALUE_LEVEL) {
                fail(16);
            } else {
                Row r = work.string(1);
                if (r != null) given.copy(r);
                phase = LEVEL_VALUED;
            }
        }

        private void doBlock(Level l) {
            Text t = l.text;
            int want = t.levelOf(l.line) + 1, line = l.line + 1;
            while (line < t.lines && t.levelOf(line) > want) line++;
            if (t.name == 0 || line >= t.lines || t.levelOf(line) < want) return;
            Level block = work.pushLevel(BLOCK_LEVEL, proc.test);
            if (block == null) {
                fail(NO_ROOM);
                return;
            }
            block.block = want;
            goOn(block, t, line, t.codeOf(line));
        }

        private void xecute() {
            Row s = work.string(1);
            work.drop(1);
            Level l = work.pushLevel(TEXT_LEVEL, proc.test);
            if (l == null || s == null) {
                fail(NO_ROOM);
                return;
            }
            l.own.load(s.bytes, 0, s.length);
            goOn(l, l.own, 0, 0);
            phase = READING + A_LINE;
        }

        private void hang() {
            if (proc.wait == RUNNING) {
                int n = whole(1);
                if (error != 0) return;
                if (n > 0) {
                    await(FOR_TIME, true, n);
                    return;
                }
            }
            proc.wait = RUNNING;
            work.drop(1);
        }

        // ---- FOR

        private void beginLoop(int body, long name) {
            int i = work.loopCount;
            if (i < 0 || i >= work.loopNames.length || 3 * i + 2 >= work.loops.length) {
                fail(NO_ROOM);
                return;
            }
            work.loops[3 * i] = body;
            work.loops[3 * i + 1] = body;
            work.loops[3 * i + 2] = 0;
            work.loopNames[i] = name;
            work.loopCount++;
        }

        private static int loopFact(Work w, int i, int fact) {
            return i >= 0 && 3 * i + fact < w.loops.length ? w.loops[3 * i + fact] : 0;
        }

        /** A range begins: of one value, or of so many numbers. */
        private void range(int numbers, int i) {
            Row e = work.string(numbers);
            Num step = i >= 0 && i < work.steps.length ? work.steps[i] : null, limit = i >= 0 && i < work.limits.length ? work.limits[i] : null;
            if (e == null || step == null || limit == null || i >= work.loopNames.length || 3 * i + 2 >= work.loops.length) return;
            out.copy(e);
            if (numbers > 1) {
                number(step, numbers - 1);
                if (numbers > 2) number(limit, 1);
                number(a, numbers);
                out.clear();
                a.text(out);
            }
            work.drop(numbers);
            if (error == 0) setLoop(work.loopNames[i]);
            if (error != 0) return;
            work.loops[3 * i + 1] = work.place;
            work.loops[3 * i + 2] = numbers;
            if (numbers < 3 || !isBehind(step, limit)) work.place = work.loops[3 * i];
        }

        /** Whether the number at hand is behind a range's end. */
        private boolean isBehind(Num step, Num limit) {
            return step.m < 0 ? a.compare(limit) < 0 : a.compare(limit) > 0;
        }

        private void setLoop(long name) {
            met.begin(A_LOCAL, name);
            met.owner = work.scope.cell(name);
            storeLocal(out);
        }

        /** The part of a FOR was done: its next round, or its next range. */
        private void nextRound(int i) {
            int numbers = loopFact(work, i, 2);
            phase = GOING;
            work.place = loopFact(work, i, numbers == 0 ? 0 : 1);
            if (numbers < 2 || i < 0 || i >= work.loopNames.length) return;
            Num step = work.steps[i], limit = work.limits[i];
            met.begin(A_LOCAL, work.loopNames[i]);
            met.owner = work.scope.cell(met.name);
            Row v = locals.find(met);
            if (v == null || step == null || limit == null) {
                fail(15);
                return;
            }
            int wrong = a.read(v.bytes, 0, v.length);
            if (wrong == 0) wrong = a.add(step);
            if (wrong != 0) fail(wrong);
            if (wrong != 0 || numbers > 2 && isBehind(step, limit)) return;
            out.clear();
            a.text(out);
            storeLocal(out);
            work.place = loopFact(work, i, 0);
        }

        // ---- transactions

        private void beginTransaction(Level l, int how, int list, int place) {
            Scope s = work.scope;
            if (proc.depth == 0) {
                s.keptCount = 0;
                if (how > 0) keepLocals(s, l.text, how == 1 ? 0 : list + 1);
                if (error != 0) return;
                s.restartable = how > 0;
                s.gone = 0;
                s.level = work.levelCount - 1;
                s.loops = work.loopCount;
                s.text = l.text;
                s.line = l.line;
                s.place = place;
                s.copyCount = 0;
                s.log.clear();
            }
            proc.depth++;
        }

        /** Keeps the values of the names in a list of the text, or (0) of all that have DATA; or of none if there is no room. */
        private void keepLocals(Scope s, Text t, int list) {
            int values = 0;
            for (int i = 0; i < s.count; i++) {
                if (list == 0 || Scope.lists(t, list, s.nameAt(i))) values += locals.runOf(s.cellAt(i));
            }
            if (!locals.hasRoom(values)) {
                fail(NO_ROOM);
                return;
            }
            if (list == 0) {
                for (int i = 0; i < s.count; i++) if (locals.runOf(s.cellAt(i)) > 0) keepLocal(s, s.nameAt(i));
                return;
            }
            int at = list;
            for (int i = 0; i < MOST_LIST && t.nameAt(at) != 0; i++) {
                keepLocal(s, t.nameAt(at));
                at = t.behindName(at);
            }
        }

        private void keepLocal(Scope s, long name) {
            int i = s.keptCount, cell = s.cell(name), kept = NO_CELL;
            for (int k = 0; k < i && k < s.keptNames.length; k++) if (s.keptNames[k] == name) return;
            if (i < 0 || i >= s.keptNames.length || i >= s.keptCells.length) return;
            if (cell >= 0 && locals.runOf(cell) > 0) {
                kept = newCell();
                other.begin(A_LOCAL, name);
                other.owner = cell;
                locals.run(other);
                locals.copyRun(other, kept);
            }
            s.keptNames[i] = name;
            s.keptCells[i] = kept;
            s.keptCount = i + 1;
        }

        private void commit() {
            Scope s = work.scope;
            if (proc.depth != 1) {
                if (proc.depth == 0) fail(NO_TRANSACTION);
                else proc.depth--;
                return;
            }
            if (s.changedByOthers()) {
                house.counts[CONFLICTS]++;
                phase = RESTARTING;
                return;
            }
            if (s.log.length > 0) {
                if (!house.hasRoom(s.log.length + 1)) {
                    fail(NO_ROOM);
                    return;
                }
                house.waiting.addRow(s.log);
                house.unitIsWhole();
                for (int i = 0; i < s.copyCount && i < s.copies.length && i < s.marks.length; i++) {
                    if ((s.marks[i] & CHANGED_HERE) != 0) replace(s.copies[i]);
                }
            }
            endTransaction(proc);
            proc.restarts = 0;
            house.counts[COMMITS]++;
        }

        /** The copy of a global, which nobody else changed, takes its place in the house. */
        private void replace(long name) {
            other.begin(A_GLOBAL, name);
            house.globals.run(other);
            house.globals.removeRun();
            other.owner = work.owner;
            house.globals.run(other);
            house.globals.moveRun(other, 0);
            changed(name);
        }

        /** Others that copied this global are in CONFLICT. */
        private void changed(long name) {
            for (int i = 0; i < procCount; i++) {
                Proc p = living(i);
                if (p != null && p != proc && p.work != null) p.work.scope.mark(name, CHANGED_BY_OTHERS);
            }
        }

        /** The copies go, and what was kept. */
        private void endTransaction(Proc p) {
            Work w = p.work;
            if (w == null) return;
            Scope s = w.scope;
            if (house.globals.runOf(w.owner) > 0) house.globals.removeRun();
            for (int i = 0; i < s.keptCount && i < s.keptCells.length; i++) release(s.keptCells[i]);
            s.keptCount = 0;
            s.copyCount = 0;
            s.log.clear();
            s.level = NONE;
            s.loops = 0;
            s.text = null;
            p.depth = 0;
        }

        /** A transaction goes back to its TSTART, if it can. */
        private void restart() {
            Scope s = work.scope;
            phase = GOING;
            if (!s.restartable || s.gone != 0 || s.text == null) {
                endTransaction(proc);
                proc.restarts = 0;
                fail(NO_RESTART);
                return;
            }
            int level = s.level, loops = s.loops;
            for (int i = 0; i < MOST_LEVELS && work.levelCount > level + 1; i++) pop();
            Level l = work.top();
            if (l == null) return;
            work.giveUp(l);
            work.dropLoops(loops);
            goOn(l, s.text, s.line, s.place);
            for (int i = 0; i < s.keptCount && i < s.keptNames.length && i < s.keptCells.length; i++) {
                giveBack(s, s.keptNames[i], s.keptCells[i]);
                s.keptCells[i] = NO_CELL;
            }
            endTransaction(proc);
            proc.restarts++;
            house.counts[RESTARTS]++;
        }

        /** A local has just the values that were kept. */
        private void giveBack(Scope s, long name, int kept) {
            int cell = s.cell(name);
            if (cell >= 0 && locals.runOf(cell) > 0) locals.removeRun();
            if (kept < 0) {
                tidy(s, cell);
                return;
            }
            if (cell < 0) {
                s.bind(name, kept);
                return;
            }
            other.begin(A_LOCAL, name);
            other.owner = kept;
            locals.run(other);
            locals.moveRun(other, cell);
            release(kept);
        }

        // ---- what is done to nodes

        private void act(int op, int arg) {
            switch (op) {
                case KILL:
                    if (meet(work.node(1), false)) kill();
                    work.dropNodes(1);
                    break;
                case KILL_ALL: killOthers(0); break;
                case KILL_BUT: killOthers(arg + 1); break;
                case LOCK: lockNodes(arg & 3, arg >> 2 & 31, (arg & 128) != 0); break;
                case LOCK_NONE: house.letGoAll(proc.number); break;
                case MERGE: merge(); break;
                case NEW:
                    if (work.scope.hiddenCount >= MOST_HIDDEN) fail(NO_ROOM);
                    else hide(work.scope, work.text.nameAt(arg));
                    break;
                case NEW_ALL: hideOthers(work.scope, 0); break;
                case NEW_BUT: hideOthers(work.scope, arg + 1); break;
                case READ: readLine(arg == 1); break;
                case SET_TO: setTo(arg & 7, arg >> 3 & 3, arg >> 6 & 63, arg >> 12); break;
                case SET_END:
                    work.dropNodes(arg & 63);
                    work.drop(arg >> 6);
                    break;
                case WRITE:
                    Row r = work.string(1);
                    for (int i = 0; r != null && i < r.length; i++) proc.write(r.at(i));
                    work.drop(1);
                    break;
                case WRITE_BYTE:
                    int c = whole(1);
                    if (error == 0 && c >= 0 && c <= 255) proc.write(c);
                    work.drop(1);
                    break;
                case WRITE_LINE: proc.write(arg); break;
                default:
                    int n = whole(1);
                    if (error == 0 && n < MILLION && n > proc.x) proc.writeBlanks(n - proc.x);
                    work.drop(1);
                    break;
            }
        }

        private void storeLocal(Row v) {
            boolean is = met.owner >= 0;
            if (!locals.hasRoom(1) && (!is || locals.find(met) == null)) {
                fail(NO_ROOM);
                return;
            }
            if (!is) {
                met.owner = newCell();
                if (met.owner < 0 || !work.scope.bind(met.name, met.owner)) {
                    release(met.owner);
                    fail(NO_ROOM);
                    return;
                }
            }
            locals.put(met, v);
        }

        /** The node that was met becomes this value. */
        private void store(Row v) {
            if (met.kind == A_LOCAL) {
                storeLocal(v);
                return;
            }
            int bytes = House.recordLength(met) + 1 + v.length;
            boolean room = house.globals.hasRoom(1) || house.globals.find(met) != null;
            if (!room || !mayRecord(bytes)) {
                fail(NO_ROOM);
                return;
            }
            house.globals.put(met, v);
            Row to = record(SET_RECORD);
            House.addValue(to, v);
            recorded();
        }

        /** Whether there is room for records that change a global: in the transaction, or on the disk as a unit. */
        private boolean mayRecord(int bytes) {
            return proc.depth > 0 ? work.scope.log.length + bytes <= MOST_LOG : house.hasRoom(bytes + 1);
        }

        private Row record(int type) {
            Row to = proc.depth > 0 ? work.scope.log : house.waiting;
            House.addRecord(to, type, met);
            return to;
        }

        private void recorded() {
            if (proc.depth > 0) {
                work.scope.mark(met.name, CHANGED_HERE);
            } else {
                house.unitIsWhole();
                changed(met.name);
            }
        }

        /** The node that was met goes, and all below it. */
        private void kill() {
            Tree t = tree(met);
            if (t.run(met) == 0) return;
            if (met.kind == A_LOCAL) {
                t.removeRun();
                tidy(work.scope, met.owner);
            } else if (mayRecord(House.recordLength(met))) {
                t.removeRun();
                record(KILL_RECORD);
                recorded();
            } else {
                fail(NO_ROOM);
            }
        }

        /** All locals but those in a list of the text go; all with no list (0). */
        private void killOthers(int list) {
            Scope s = work.scope;
            for (int i = s.count - 1; i >= 0; i--) {
                int cell = s.cellAt(i);
                if (i >= s.count || list > 0 && isSpared(s, list, cell)) continue;
                if (locals.runOf(cell) > 0) locals.removeRun();
                tidy(s, cell);
            }
        }

        /** Names that are one are one local: it stays if one of them is listed. */
        private boolean isSpared(Scope s, int list, int cell) {
            for (int i = 0; i < s.count; i++) if (s.cellAt(i) == cell && Scope.lists(work.text, list, s.nameAt(i))) return true;
            return false;
        }

        private void hideOthers(Scope s, int list) {
            int hidden = 0, kept = 0;
            for (int at = list; list > 0 && kept < MOST_LIST && work.text.nameAt(at) != 0; at = work.text.behindName(at)) kept++;
            for (int i = 0; i < s.count; i++) {
                boolean counts = locals.runOf(s.cellAt(i)) > 0 || referencesOf(s.cellAt(i)) > 1;
                if (counts && !(list > 0 && Scope.lists(work.text, list, s.nameAt(i)))) hidden++;
            }
            if (s.hiddenCount + hidden + kept + 1 > MOST_HIDDEN) {
                fail(NO_ROOM);
                return;
            }
            for (int i = s.count - 1; i >= 0; i--) {
                long name = s.nameAt(i);
                if (!(list > 0 && Scope.lists(work.text, list, name))) hide(s, name);
            }
            int at = list;
            for (int i = 0; i < kept; i++) {
                s.pushHidden(work.text.nameAt(at), KEPT_NAME);
                at = work.text.behindName(at);
            }
            s.pushHidden(kept, ALL_HIDDEN);
        }

        private void setTo(int kind, int strings, int node, int string) {
            Row e = work.string(1);
            Level l = work.top();
            if (e == null || l == null) return;
            if (kind == T_ETRAP) {
                l.trap.copy(e);
            } else if (kind == T_ECODE) {
                int last = e.length - 1;
                if (last >= 0 && (last < 2 || e.at(0) != ',' || e.at(last) != ',')) {
                    fail(101);
                    return;
                }
                proc.code.copy(e);
                if (last >= 0) fail(AGAIN);
            } else {
                int first = kind == T_PIECE ? 1 : 0, n = strings > first ? whole(string - first) : 1;
                int m = strings > first + 1 ? whole(string - first - 1) : n;
                if (error != 0 || !meet(work.node(node), false)) return;
                if (kind == T_NODE) {
                    store(e);
                    return;
                }
                Row old = tree(met).find(met);
                if (kind == T_PIECE ? !putPiece(old, work.string(string), n, m) : !putBytes(old, n, m)) return;
                if (error == 0) store(out);
            }
        }

        /** The value with new pieces; false if nothing is to be done. */
        private boolean putPiece(Row old, Row t, int told, int m) {
            int n = Math.max(told, 1);
            Row e = work.string(1);
            if (t == null || e == null || t.length == 0 || m < n) return false;
            out.clear();
            if (old != null) given.copy(old);
            else given.clear();
            int many = pieces(given, t), bytes = given.length;
            boolean room = true;
            if (n <= many) {
                room = out.addPart(given.bytes, 0, Math.min(pieceAt(given, t, n), given.length));
            } else {
                room = (long) (n - many) * t.length + bytes <= LONGEST && out.addRow(given);
                for (int i = many; i < n && room; i++) room = out.addRow(t);
            }
            room = room && out.addRow(e);
            if (m < many && room) {
                int from = pieceAt(given, t, m + 1) - t.length;
                room = out.addPart(given.bytes, from, bytes - from);
            }
            if (!room) fail(TOO_LONG);
            return true;
        }

        private boolean putBytes(Row old, int told, int m) {
            int n = Math.max(told, 1);
            Row e = work.string(1);
            if (e == null || m < n) return false;
            out.clear();
            if (old != null) given.copy(old);
            else given.clear();
            boolean room = n - 1 <= LONGEST;
            if (room) {
                out.addPart(given.bytes, 0, Math.min(n - 1, given.length));
                out.addMany(' ', n - 1 - out.length);
                room = out.addRow(e) && (m >= given.length || out.addPart(given.bytes, m, given.length - m));
            }
            if (!room) fail(TOO_LONG);
            return true;
        }

        private void readLine(boolean timed) {
            boolean line = work.toldCount > 0, waited = proc.wait != RUNNING;
            int n = timed && !waited ? whole(1) : 0;
            if (error != 0) return;
            // also for no seconds at all: only of HANG and LOCK the document says that such do not wait
            if (!line && !waited) {
                await(FOR_LINE, timed, n);
                return;
            }
            proc.wait = RUNNING;
            if (timed) {
                proc.test = line ? 1 : 0;
                work.drop(1);
            }
            given.clear();
            if (line) work.nextTold(given);
            if (meet(work.node(1), false)) store(given);
            work.dropNodes(1);
        }

        /** LOCK of so many nodes: 1 for +, 2 for - before them. */
        private void lockNodes(int sign, int many, boolean timed) {
            boolean waited = proc.wait != RUNNING;
            int n = timed && !waited ? whole(1) : 0;
            if (error != 0) return;
            if (!waited) {
                for (int i = many; i > 0; i--) {
                    Node node = work.node(i);
                    if (node == null || !makeOut(node, met, false)) return;
                    node.copy(met);
                }
                if (sign == 0) house.letGoAll(proc.number);
                for (int i = many; i > 0 && sign == 2; i--) unlock(work.node(i));
            }
            boolean taken = sign == 2 || !barred(many);
            if (!taken && !waited && !(timed && n <= 0)) {
                await(FOR_LOCKS, timed, n);
                return;
            }
            proc.wait = RUNNING;
            if (taken && sign != 2) hold(many);
            if (error != 0) return;
            if (timed) {
                proc.test = taken ? 1 : 0;
                work.drop(1);
            }
            work.dropNodes(many);
        }

        private void unlock(Node n) {
            int i = n == null ? NONE : house.lockOf(n, proc.number);
            Node l = house.held(i);
            if (l == null) return;
            l.times--;
            if (l.times < 1) house.letGo(i);
        }

        /** All at once, or none if there is no room. */
        private void hold(int many) {
            int fresh = 0;
            for (int i = 1; i <= many; i++) {
                Node n = work.node(i);
                boolean again = n != null && house.lockOf(n, proc.number) >= 0;
                for (int k = 1; k < i && n != null && !again; k++) {
                    Node o = work.node(k);
                    again = o != null && o.kind == n.kind && Node.order(o, n, true) == 0;
                }
                if (!again) fresh++;
            }
            if (house.lockCount + fresh > MOST_LOCKS) {
                fail(NO_ROOM);
                return;
            }
            for (int i = many; i > 0; i--) {
                Node n = work.node(i);
                if (n != null) house.hold(n, proc.number);
            }
        }

        // ---- MERGE

        private void merge() {
            Node to = work.node(2), from = work.node(1);
            if (to == null || from == null || !meet(to, false)) return;
            to.copy(met);
            if (!meet(from, false)) return;
            from.copy(met);
            work.dropNodes(2);
            if (to.kind == from.kind && (to.kind == A_GLOBAL || to.owner < 0 || from.owner < 0 ? to.name == from.name : to.owner == from.owner)) {
                int owner = to.owner;
                to.owner = from.owner;
                int one = Node.order(to, from, to.kind == A_GLOBAL), two = Node.order(from, to, to.kind == A_GLOBAL);
                to.owner = owner;
                if (one == 0 || one == 1 || two == 1) {
                    fail(19);
                    return;
                }
            }
            Tree t = tree(from);
            int many = Math.min(t.run(from), ids.length);
            for (int i = 0; i < many && t.from + i < t.order.length; i++) ids[i] = t.order[t.from + i];
            if (many > 0 && mayMerge(to, from, t, many)) mergeAll(to, from, t, many);
        }

        /** What a node below one becomes below the other. */
        private void moved(Node n, Node from, Node to) {
            met.copy(to);
            if (n != null) met.addBehind(n, from.length, n.subscripts - from.subscripts);
        }

        /** Whether all the nodes can be, and there is room for them. */
        private boolean mayMerge(Node to, Node from, Tree source, int many) {
            int fresh = 0, bytes = 0;
            Tree t = tree(to);
            for (int i = 0; i < many; i++) {
                int p = ids[i];
                if (p < 0 || p >= source.nodes.length || p >= source.values.length) return false;
                moved(source.nodes[p], from, to);
                Row v = source.values[p];
                if (!met.canBe()) fail(BAD_NODE);
                if (t.find(met) == null) fresh++;
                bytes += House.recordLength(met) + 1 + (v == null ? 0 : v.length);
            }
            if (error == 0 && (!t.hasRoom(fresh) || to.kind == A_GLOBAL && !mayRecord(bytes))) fail(NO_ROOM);
            return error == 0;
        }

        private void mergeAll(Node to, Node from, Tree source, int many) {
            for (int i = 0; i < many; i++) {
                int p = ids[i];
                Row v = p >= 0 && p < source.values.length ? source.values[p] : null;
                if (v == null) return;
                moved(source.nodes[p], from, to);
                if (to.kind == A_LOCAL) {
                    storeLocal(v);
                    to.owner = met.owner;
                } else {
                    house.globals.put(met, v);
                    House.addValue(record(SET_RECORD), v);
                }
            }
            if (to.kind == A_GLOBAL) recorded();
        }

        // ---- what is asked of them

        /** Whether a level of a living process is in a routine, or its transaction's TSTART stands there. */
        private boolean inUse(Text t) {
            for (int i = 0; i < procCount; i++) {
                Proc p = living(i);
                Work w = p == null ? null : p.work;
                for (int k = 0; w != null && k < w.levelCount; k++) {
                    Level l = w.levelAt(k);
                    if (l != null && l.text == t) return true;
                }
                if (w != null && w.scope.text == t && (w.scope.gone & LEVEL_GONE) == 0) return true;
            }
            return false;
        }

        /** A process whose lowest level is a text that is a line; NONE if there is no room. */
        private Proc beginProcess(Row text) {
            Proc p = create();
            if (p == null || p.work == null) return null;
            Level l = p.work.pushLevel(TEXT_LEVEL, 0);
            if (l == null) return null;
            l.own.load(text.bytes, 0, text.length);
            l.text = l.own;
            l.line = 0;
            p.work.text = l.own;
            p.work.place = 0;
            return p;
        }

        private int seenValues(Scope s) {
            int n = 0;
            for (int i = 0; i < s.count; i++) if (s.nameOf(s.cellAt(i)) == i) n += locals.runOf(s.cellAt(i));
            return n;
        }

        /** What is asked of a node that a text names: the length of the answer, NONE without a value; or its DATA. */
        private int answer(Node n, Proc p, int what, Row to) {
            met.copy(n);
            met.owner = 0;
            proc = p;
            work = p == null ? null : p.work;
            if (n.kind == A_LOCAL) met.owner = work == null ? NO_CELL : work.scope.cell(n.name);
            Tree t = tree(met);
            if (what == 4) return t.data(met);
            out.clear();
            if (what == 0) {
                Row v = t.find(met);
                if (v == null) return NONE;
                out.copy(v);
            } else if (what == 3) {
                nodeBehind();
            } else if (met.subscripts == 0) {
                nameBeside(met.kind, met.name, what == 1 ? 1 : -1, false);
            } else {
                subscriptBeside(what == 1 ? 1 : -1);
            }
            to.copy(out);
            return to.length;
        }
    }
}

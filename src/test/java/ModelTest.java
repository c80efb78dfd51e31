import java.util.function.Supplier;
import java.util.function.ToLongFunction;

/** MumpsHouse held against the Model on random texts: every answer of both is the same. A pair of objects has 512 calls at most. */
public final class ModelTest {
    private static final int MOST_CALLS = 512, LATEST = 400;

    private final MumpsHouse house = new MumpsHouse();
    private final Model model = new Model();
    private final RandomTexts texts;
    private final StringBuilder told = new StringBuilder();
    private int calls;
    private boolean differs;

    private ModelTest(long seed) {
        texts = new RandomTexts(seed);
    }

    public static void main(String[] args) {
        int rounds = args.length > 0 ? Integer.parseInt(args[0]) : 60, first = args.length > 1 ? Integer.parseInt(args[1]) : 1;
        for (int seed = first; seed < first + rounds; seed++) {
            run(seed, ModelTest::faults);
            run(seed, t -> t.lines("commands"));
            run(seed, t -> t.lines("shared commands"));
            run(seed, ModelTest::expressions);
            run(seed, t -> t.routines(t.texts.flowRoutine(), () -> "S Z=0 D " + t.texts.of("flow entry", 0) + " W $$" + t.texts.pick("A", "B") + "^R"));
            run(seed, t -> t.routines(t.texts.of("loops", 3), () -> t.texts.pick("D A^R(1)", "D D^R", "W $$A^R(1)")));
            run(seed, t -> t.routines(t.texts.of("deep routine", 4), () -> "S (A,A(1),B(2),C(1,2,3))=1 W $$F^R(" + t.texts.below(30) + ")"));
            run(seed, t -> t.routines(t.texts.of("hide routine", 3), () -> t.texts.pick("S A=1,B=2 D L1^R(.A)", "D L2^R(.A,.B)", "S X=3 D L3^R") + " W $$F1^R(.B)"));
            run(seed, t -> t.routines(t.texts.of("own routine", 3), () -> t.texts.pick("S A=1,B=2 ", "S ^A(1)=1,^B(2)=2 ") + "D L1^R,L2^R " + t.texts.of("own", 1)));
            run(seed, ModelTest::rooms);
            run(seed, ModelTest::disk);
        }
        House.report();
    }

    private interface Way {
        void go(ModelTest t);
    }

    private static void run(int seed, Way way) {
        ModelTest t = new ModelTest(seed);
        way.go(t);
        t.model.dispose();
        House.due("seed " + seed + t.told, t.differs ? 1 : 0, 0);
    }

    // ---- calls of both

    private boolean isSpent() {
        return differs || calls >= MOST_CALLS;
    }

    private long both(String call, ToLongFunction<MumpsHouse> ofHouse, ToLongFunction<Model> ofModel) {
        if (isSpent()) return Model.NONE;
        calls++;
        long answer = ofHouse.applyAsLong(house), due = ofModel.applyAsLong(model);
        if (answer != due) {
            differs = true;
            told.append("\n    ").append(call).append(" answered ").append(answer).append(", the model ").append(due);
        }
        return answer;
    }

    private void tape(String text) {
        byte[] b = House.bytes(text);
        both("end", h -> h.end(0), m -> m.end(0));
        for (int i = 0; i < b.length; i += 20) {
            int[] n = new int[5];
            for (int k = 0; k < 20; k++) if (i + k < b.length) n[k / 4] |= (b[i + k] & 255) << 24 - 8 * (k % 4);
            both("feed", h -> h.feed(n[0], n[1], n[2], n[3], n[4]), m -> m.feed(n[0], n[1], n[2], n[3], n[4]));
        }
        both("end", h -> h.end(b.length), m -> m.end(b.length));
    }

    private boolean fits(String text) {
        if (isSpent() || calls + text.length() / 20 + 4 > MOST_CALLS) return false;
        told.append("\n    [").append(text.replace("\n", "<10>")).append(']');
        return true;
    }

    private long save(String name, String text) {
        if (!fits(text)) return Model.NONE;
        tape(name + text);
        return both("save", h -> h.save(name.length()), m -> m.save(name.length()));
    }

    private int process(String text) {
        if (text.length() > 250 || !fits(text)) return Model.NONE;
        tape(text);
        return (int) both("process", MumpsHouse::process, Model::process);
    }

    private long turns(int n) {
        told.append("\n    turns ").append(n);
        return both("turns", h -> h.turns(n), m -> m.turns(n));
    }

    private void state(int process) {
        for (int what = 0; what < 12; what++) {
            int w = what;
            both("state " + w + " of " + process, h -> h.state(process, w), m -> m.state(process, w));
        }
        both("code", h -> h.code(process), m -> m.code(process));
        result();
        int levels = (int) both("levels", h -> h.state(process, 1), m -> m.state(process, 1));
        for (int what = 0; what < 3 && levels > 0; what++) {
            int k = texts.below(levels), w = what;
            both("level " + k, h -> h.level(process, k, w), m -> m.level(process, k, w));
            result();
        }
        int n = (int) both("length", h -> h.state(process, 8), m -> m.state(process, 8));
        for (int i = 0; i < Math.min(n, 60); i++) {
            int at = n <= 60 ? i : texts.below(n);
            both("written " + at, h -> h.written(process, at), m -> m.written(process, at));
        }
    }

    private void result() {
        for (int i = 0; i < 20; i++) {
            int at = i;
            if (both("result " + at, h -> h.result(at), m -> m.result(at)) < 0) return;
        }
    }

    private void counts() {
        for (int i = 0; i < 15; i++) {
            int what = i;
            both("count " + what, h -> h.count(what), m -> m.count(what));
        }
    }

    private void locks() {
        for (int i = 0; i < 8; i++) {
            int at = i;
            both("times of lock " + at, h -> h.lock(at, 1), m -> m.lock(at, 1));
            if (both("lock " + at, h -> h.lock(at, 2), m -> m.lock(at, 2)) < 0) return;
            result();
        }
    }

    private void looks(int n) {
        for (int i = 0; i < n; i++) {
            String node = texts.pick("A", "B", "C", "X", "^A", "^B", "^C", "^G") + texts.pick("", "(1)", "(2)", "(\"\")", "(\"a\")", "(0)", "(1,2)", "(1,\"\")", "(01)", "(1");
            int p = texts.below(3), what = texts.below(6);
            tape(node);
            both("look " + what + " " + node, h -> h.look(p, what), m -> m.look(p, what));
            result();
        }
    }

    // ---- what is done

    private void faults() {
        String text = texts.routine(2, "commands");
        for (int from = 0; from < text.length() && !isSpent(); from = text.indexOf('\n', from) + 1) {
            int end = text.indexOf('\n', from);
            if (end < 0) return;
            save("R", texts.changed(text.substring(from, end)));
        }
    }

    private void lines(String commands) {
        String routine = "";
        for (int i = 0; i < 20 && (routine.isEmpty() || routine.length() > 1500); i++) routine = texts.routine(texts.below(3), commands);
        routines(routine, () -> texts.pick("S A=1,B=\"a,b\",C(1)=2,X=\"A\",^A(1)=1,^A(\"a\",2)=7,^B=2 ", "") + (texts.chance(50) ? "D {do}" : "{c}")
            .replace("{do}", texts.of("do", 1)).replace("{c}", texts.of(commands, 2).stripTrailing()));
    }

    private void expressions() {
        while (!isSpent()) {
            int p = process("S A=1,B=\"a,b\",C(1)=2 W " + texts.of("expr", 2) + ",\"|\"," + texts.of("expr", 3));
            turns(LATEST);
            if (p >= 0) both("code", h -> h.code(p), m -> m.code(p));
            for (int i = 0; i < 40 && p >= 0; i++) {
                int at = i;
                if (both("written " + at, h -> h.written(p, at), m -> m.written(p, at)) < 0) break;
            }
            if (p >= 23) return;
        }
    }

    /** Processes of a routine, with turns, told times and lines between. */
    private void routines(String routine, Supplier<String> process) {
        both("seed", h -> h.seed(routine.length()), m -> m.seed(routine.length()));
        save("R", routine);
        for (int i = 0; i < 3 && !isSpent(); i++) {
            int p = process(process.get());
            turns(texts.chance(50) ? LATEST : 1 + texts.below(60));
            if (p >= 0) state(p);
            between(Math.max(0, p));
        }
        counts();
        locks();
        looks(6);
        while (!isSpent() && turns(100) > 0) state(0);
    }

    private void between(int p) {
        if (texts.chance(40)) {
            int later = (int) both("second", h -> h.count(14), m -> m.count(14)) + texts.below(3);
            both("time", h -> h.time(later), m -> m.time(later));
        }
        if (texts.chance(40)) {
            tape(texts.of("raw", 0));
            both("tell", h -> h.tell(p), m -> m.tell(p));
        }
        if (texts.chance(10)) both("halt", h -> h.halt(p), m -> m.halt(p));
        if (texts.chance(10)) save("R", texts.pick("L1 W 1", "F1(A) Q A"));
        turns(1 + texts.below(30));
    }

    private void rooms() {
        for (int i = 0; i < 16 && !isSpent(); i++) {
            int p = process(texts.of("fill", 2));
            for (int k = 0; k < 4; k++) turns(LATEST);
            counts();
            if (p >= 0) both("code", h -> h.code(p), m -> m.code(p));
            result();
            if (texts.chance(40)) both("sync", MumpsHouse::sync, Model::sync);
            if (texts.chance(30)) both("halt", h -> h.halt(p), m -> m.halt(p));
        }
    }

    private void disk() {
        for (int round = 0; round < 5 && !isSpent(); round++) {
            process("S ^" + texts.of("global", 0) + "(" + texts.below(5) + ")=" + RandomTexts.quoted(texts.of("raw", 1)) + ",^B=$J(" + texts.below(9) + "," + texts.below(250) + ")");
            process("TS  S ^A(" + texts.below(3) + ")=1 K ^B TC  M ^G=^A");
            turns(1 + texts.below(20));
            if (texts.chance(40)) save(texts.pick("R", "S", "T"), texts.pick("A W 1", "B ;x\n Q", ""));
            int n = texts.below(4) - 1, tear = texts.below(256);
            if (texts.chance(40)) both("cut", h -> h.cut(n, tear), m -> m.cut(n, tear));
            both("sync", MumpsHouse::sync, Model::sync);
            if (texts.chance(30)) poke();
            both("verify", MumpsHouse::verify, Model::verify);
            octets();
            if (texts.chance(50)) both("start", MumpsHouse::start, Model::start);
            counts();
            looks(2);
        }
    }

    /** A byte becomes another one; at times its block's sum is made right again. */
    private void poke() {
        int block = 1 + texts.below(3), i = texts.below(40), mask = 1 << texts.below(8);
        both("poke", h -> h.poke(block, i, mask), m -> m.poke(block, i, mask));
        if (texts.chance(30)) return;
        int s = 0;
        for (int k = 0; k < 252; k++) s = Integer.rotateLeft(s ^ model.octet(block, k), 9) * 0x9E3779B1;
        for (int k = 0; k < 4; k++) {
            int at = 252 + k, other = (s >>> 24 - 8 * k & 255) ^ model.octet(block, at);
            both("poke", h -> h.poke(block, at, other), m -> m.poke(block, at, other));
        }
    }

    private void octets() {
        for (int k = 0; k < 12; k++) {
            int block = 1 + texts.below(4), i = texts.chance(50) ? texts.below(8) : texts.below(256);
            both("octet", h -> h.octet(block, i), m -> m.octet(block, i));
        }
    }
}

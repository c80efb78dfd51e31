import java.util.function.ToLongFunction;

/**
 * Calls by chance, with numbers and texts that are right and wrong, made of two houses: none throws, the same calls
 * give the same answers, and what is refused changes nothing: the second house is not asked what the first refused.
 */
public final class CallsTest {
    private static final int DOWN = MumpsHouse.DOWN, LOST = MumpsHouse.LOST, MOST_CALLS = 512;
    private static final int[] EDGES = {0, 1, -1, 2, 3, 7, 8, 9, 14, 15, 19, 20, 23, 24, 249, 250, 251, 255, 256, 399, 400, 401, 2000, 2001, 3000, 4000,
        2000000000, 2000000001, Integer.MAX_VALUE, Integer.MIN_VALUE, Integer.MIN_VALUE + 1};

    private final MumpsHouse one = new MumpsHouse();
    private final MumpsHouse other = new MumpsHouse();
    private final RandomTexts texts;
    private final long seed;
    private String before = "";
    private int calls;

    private CallsTest(long s) {
        seed = s;
        texts = new RandomTexts(s);
    }

    public static void main(String[] args) {
        int rounds = args.length > 0 ? Integer.parseInt(args[0]) : 300, first = args.length > 1 ? Integer.parseInt(args[1]) : 1;
        for (long s = first; s < first + rounds; s++) new CallsTest(s).run();
        House.report();
    }

    private void run() {
        int most = texts.chance(20) ? 60 : MOST_CALLS - 40;
        while (calls < most) call();
        for (int i = 0; i < 15; i++) {
            int what = i;
            made("count " + what, h -> h.count(what), false, true);
        }
        for (int i = 0; i < 20; i++) {
            int at = i;
            made("result " + at, h -> h.result(at), false, true);
        }
    }

    /** A call of both houses, or of the first one alone if that refuses it; what reads the tape uses it up. */
    private long made(String call, ToLongFunction<MumpsHouse> ask, boolean readsTape, boolean both) {
        calls++;
        long answer = ask.applyAsLong(one);
        boolean refused = answer < 0 && answer != LOST && !both;
        if (!refused) House.due("seed " + seed + ": " + call + " behind " + before, ask.applyAsLong(other), answer);
        else if (readsTape && answer != DOWN) other.end(0);
        if (refused) before = call;
        return answer;
    }

    private int number() {
        return texts.chance(70) ? texts.below(4) : texts.chance(80) ? EDGES[texts.below(EDGES.length)] : texts.random.nextInt();
    }

    private void tape(String text) {
        byte[] b = House.bytes(text.length() > 900 ? text.substring(0, 900) : text);
        made("end", h -> h.end(0), false, false);
        for (int i = 0; i < b.length; i += 20) {
            int[] n = new int[5];
            for (int k = 0; k < 20; k++) if (i + k < b.length) n[k / 4] |= (b[i + k] & 255) << 24 - 8 * (k % 4);
            made("feed", h -> h.feed(n[0], n[1], n[2], n[3], n[4]), false, false);
        }
        made("end", h -> h.end(b.length), false, false);
    }

    private void call() {
        int a = number(), b = number(), c = number();
        switch (texts.below(34)) {
            case 0 -> made("feed", h -> h.feed(a, b, c, a ^ b, b ^ c), false, false);
            case 1 -> made("end " + a, h -> h.end(a), false, false);
            case 2 -> made("save " + a, h -> h.save(a), true, false);
            case 3 -> made("process", MumpsHouse::process, true, false);
            case 4 -> made("tell " + a, h -> h.tell(a), true, false);
            case 5 -> made("time " + a, h -> h.time(a), false, false);
            case 6 -> made("seed " + a, h -> h.seed((long) a << 32 | b), false, false);
            case 7, 8, 9, 10 -> made("turns " + a, h -> h.turns(a * 10), false, false);
            case 11 -> made("halt " + a, h -> h.halt(a), false, false);
            case 12 -> made("state " + a + " " + b, h -> h.state(a, b), false, false);
            case 13 -> made("written " + a + " " + b, h -> h.written(a, b), false, false);
            case 14 -> made("take " + a, h -> h.take(a), false, false);
            case 15 -> made("code " + a, h -> h.code(a), false, false);
            case 16 -> made("level " + a + " " + b + " " + c, h -> h.level(a, b, c), false, false);
            case 17 -> made("look " + a + " " + b, h -> h.look(a, b), true, false);
            case 18 -> made("result " + a, h -> h.result(a), false, false);
            case 19 -> made("lock " + a + " " + b, h -> h.lock(a, b), false, false);
            case 20 -> made("count " + a, h -> h.count(a), false, false);
            case 21 -> House.due("seed " + seed + ": sound or DOWN", Math.abs(made("sound", MumpsHouse::sound, false, false)), one.count(0) == DOWN ? -DOWN : 1);
            case 22, 23 -> made("sync", MumpsHouse::sync, false, false);
            case 24 -> made("cut " + a + " " + b, h -> h.cut(a, b), false, false);
            case 25, 26 -> made("start", MumpsHouse::start, false, false);
            case 27 -> made("octet " + a + " " + b, h -> h.octet(a, b), false, false);
            case 28 -> made("poke " + a + " " + b + " " + c, h -> h.poke(a, b, c), false, false);
            case 29 -> made("verify", MumpsHouse::verify, false, false);
            default -> told(a);
        }
    }

    /** What a text that is fed is used for. */
    private void told(int a) {
        switch (texts.below(6)) {
            case 0 -> {
                tape("R" + texts.routine(1, "shared commands"));
                made("save", h -> h.save(1), true, false);
            }
            case 1, 2, 3 -> {
                tape(texts.chance(70) ? texts.of("shared commands", 2) : texts.pick("D L1^R,L2^R", "D F1^R(1) W $$F2^R", "J L1^R,L3^R", texts.of("fill", 2)));
                made("process", MumpsHouse::process, true, false);
            }
            case 4 -> {
                tape(texts.of("raw", 1));
                made("tell " + a, h -> h.tell(a), true, false);
            }
            default -> {
                int what = texts.below(6);
                tape(texts.pick("A", "^A", "^B(1)", "X(1,\"\")", "^C(\"a\")", "A(", "%"));
                made("look " + a + " " + what, h -> h.look(a, what), true, false);
            }
        }
    }
}

import java.nio.charset.StandardCharsets;

/** What all tests use: a MumpsHouse spoken to with texts, and a count of what was not due. */
final class House {
    final MumpsHouse house = new MumpsHouse();
    private static int wrong = 0;
    private static int asked = 0;

    static byte[] bytes(String text) {
        return text.getBytes(StandardCharsets.ISO_8859_1);
    }

    static void due(String what, long got, long want) {
        asked++;
        if (got != want) {
            wrong++;
            System.out.println(what + " answered " + got + ", due is " + want);
        }
    }

    static void due(String what, String got, String want) {
        asked++;
        if (!got.equals(want)) {
            wrong++;
            System.out.println(what + "\n    gave " + shown(got) + "\n    due is " + shown(want));
        }
    }

    private static String shown(String text) {
        StringBuilder b = new StringBuilder("[");
        for (char c : text.toCharArray()) {
            if (c < 32 || c > 126) b.append('<').append((int) c).append('>');
            else b.append(c);
        }
        return b.append(']').toString();
    }

    /** Ends the test: with exit code 1 if something was not as due. */
    static void report() {
        System.out.println(asked + " answers, " + wrong + " not as due");
        if (wrong != 0) System.exit(1);
    }

    /** The tape becomes this text. */
    House tape(String text) {
        byte[] b = bytes(text);
        house.end(0);
        for (int i = 0; i < b.length; i += 20) {
            int[] n = new int[5];
            for (int k = 0; k < 20; k++) if (i + k < b.length) n[k / 4] |= (b[i + k] & 255) << 24 - 8 * (k % 4);
            house.feed(n[0], n[1], n[2], n[3], n[4]);
        }
        house.end(b.length);
        return this;
    }

    int save(String name, String text) {
        tape(name + text);
        return house.save(name.length());
    }

    int process(String text) {
        tape(text);
        return house.process();
    }

    int tell(int process, String line) {
        tape(line);
        return house.tell(process);
    }

    String written(int process) {
        StringBuilder b = new StringBuilder();
        for (int i = 0; house.written(process, i) >= 0; i++) b.append((char) house.written(process, i));
        return b.toString();
    }

    String result() {
        StringBuilder b = new StringBuilder();
        for (int i = 0; house.result(i) >= 0; i++) b.append((char) house.result(i));
        return b.toString();
    }

    /** What is asked of a node: its value and the like, or the refusal. */
    String look(int process, String node, int what) {
        tape(node);
        int n = house.look(process, what);
        return n < 0 ? Integer.toString(n) : what == 4 ? Integer.toString(n) : result();
    }

    String code(int process) {
        house.code(process);
        return result();
    }

    /** A process of this text is done till all wait or are over: what it wrote, and its $ECODE in brackets if it has one. */
    String run(String text) {
        int p = process(text);
        if (p < 0) return "refused " + p;
        for (int i = 0; i < 50 && house.turns(400) == 400; i++) continue;
        String answer = written(p);
        house.take(p);
        String code = code(p);
        if (house.state(p, 0) < 4) house.halt(p);
        return code.isEmpty() ? answer : answer + "{" + code + "}";
    }

    /** What a new house with this routine R writes for this text. */
    static String of(String routine, String text) {
        House h = new House();
        if (!routine.isEmpty()) h.save("R", routine);
        return h.run(text);
    }
}

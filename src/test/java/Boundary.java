/** What the tests of boundary cases share: the document's words that are tested, and texts in which ` stands for ". */
class Boundary {
    private static String words = "";

    /** The words of the document that what follows tests. */
    static void says(String sentence) {
        words = sentence;
    }

    static String m(String text) {
        return text.replace('`', '"');
    }

    static void due(String what, long got, long want) {
        House.due("\"" + words + "\": " + what, got, want);
    }

    static void due(String what, String got, String want) {
        House.due("\"" + words + "\": " + what, got, want);
    }

    /** What a new house's process of this text writes, and its $ECODE in { } if it has one. */
    static void run(String text, String want) {
        run("", text, want);
    }

    /** The same, with a routine R (or none, if it is empty). */
    static void run(String routine, String text, String want) {
        due(routine.isEmpty() ? text : routine.replace("\n", "|") + " || " + text, House.of(m(routine), m(text)), want);
    }

    /** Each pair is a text and what its process writes. */
    static void runs(String... pairs) {
        for (int i = 0; i + 1 < pairs.length; i += 2) run(pairs[i], pairs[i + 1]);
    }

    /** Each pair is an expression and its value. */
    static void values(String... pairs) {
        for (int i = 0; i + 1 < pairs.length; i += 2) run("W " + pairs[i], pairs[i + 1]);
    }

    private static House reader = new House();
    private static int read = 0;

    /** The place of the FAULT of a routine's text; -1 if it has none. */
    static int fault(String text) {
        if (++read % 50 == 0) reader = new House();
        int answer = reader.save("R", m(text));
        return answer > 0 ? -1 : answer <= -10 ? -10 - answer : -100 + answer;
    }

    static void faultAt(String text, int place) {
        due("the fault of [" + text.replace("\n", "<10>") + "]", fault(text), place);
    }

    static void fine(String... texts) {
        for (String t : texts) faultAt(t, -1);
    }

    /** A byte that can't stand at the end of the front: the fault is there; a front goes on else. */
    static void breaks(String front, String... behind) {
        for (String b : behind) faultAt(front + b, m(front).length());
    }

    static House house(String... processes) {
        House h = new House();
        for (int i = 0; i < processes.length; i++) due("the process " + processes[i], h.process(m(processes[i])), i);
        return h;
    }

    /** What one more process of a house writes, and its $ECODE in { }, others waiting. */
    static String done(House h, String text) {
        int p = h.process(m(text));
        if (p < 0) return "refused " + p;
        for (int i = 0; i < 100 && h.house.state(p, 0) < 4; i++) h.house.turns(400);
        String answer = h.written(p), code = h.code(p);
        return code.isEmpty() ? answer : answer + "{" + code + "}";
    }

    /** So many turns, 400 at a time. */
    static int turns(House h, int n) {
        int went = 0;
        for (int left = n; left > 0; left -= 400) went += h.house.turns(Math.min(left, 400));
        return went;
    }

    static String repeated(String text, int n, String between) {
        StringBuilder b = new StringBuilder();
        for (int i = 0; i < n; i++) b.append(i > 0 ? between : "").append(text);
        return b.toString();
    }
}

/** Promises 1 to 26 at their edges, one after another. */
public final class BoundaryFaceTest extends Boundary {
    private static final int NONE = -1, BAD = -2, STATE = -3, FULL = -4, DOWN = -5, LOST = -6;

    public static void main(String[] args) {
        made();
        feeds();
        ends();
        saves();
        savesInUse();
        processes();
        tells();
        times();
        seeds();
        turnsOf();
        halts();
        states();
        statesOver();
        written();
        codes();
        levels();
        looks();
        looksRefused();
        results();
        locks();
        counts();
        disk();
        down();
        refusedChangesNothing();
        House.report();
    }

    private static House fresh() {
        return new House();
    }

    private static void made() {
        says("Nothing saved, no processes, an empty tape, an empty disk, x 0, second 0, no RESULT");
        House h = fresh();
        for (int what = 0; what < 15; what++) due("count " + what, h.house.count(what), 0);
        due("tape", h.house.end(0), 0);
        due("tape", h.house.end(1), NONE);
        due("RESULT", h.house.result(0), NONE);
        for (int k = 1; k <= 400; k++) for (int i = 0; i < 256; i++) if (h.house.octet(k, i) != 0) due("octet " + k + ", " + i, h.house.octet(k, i), 0);
        due("verify", h.house.verify(), NONE);
        due("start", h.house.start(), STATE);
        due("turns", h.house.turns(400), 0);
        due("lock", h.house.lock(0, 0), NONE);
        due("state", h.house.state(0, 0), NONE);
        due("second", h.run("W $H"), "0,0");
        h = house("F  W 1", "F  W 1", "F  W 1");
        long x = 0;
        int[] went = new int[3];
        for (int i = 0; i < 9; i++) {
            h.house.turns(1);
            x = x * 6364136223846793005L + 1442695040888963407L;
            went[(int) ((x >>> 33) % 3)]++;
            for (int p = 0; p < 3; p++) due("of process " + p, h.house.state(p, 9), went[p]);
        }
        says("NONE = -1, BAD = -2, STATE = -3, FULL = -4, DOWN = -5, LOST = -6");
        due("NONE", MumpsHouse.NONE, -1);
        due("BAD", MumpsHouse.BAD, -2);
        due("STATE", MumpsHouse.STATE, -3);
        due("FULL", MumpsHouse.FULL, -4);
        due("DOWN", MumpsHouse.DOWN, -5);
        due("LOST", MumpsHouse.LOST, -6);
    }

    private static void feeds() {
        says("Twenty bytes come behind the tape, each number's highest one first: how many it has");
        House h = fresh();
        due("feed", h.house.feed(0x57224142, 0x43444546, 0x4748494A, 0x4B4C4D4E, 0x4F502200), 20);
        h.house.end(19);
        h.house.process();
        h.house.turns(1);
        due("its bytes", h.written(0), "");
        h = fresh();
        due("feed", h.house.feed(0x57202241, 0x42FF8000, 0x44454647, 0x48494A4B, 0x4C4D4E22), 20);
        h.house.process();
        h.house.turns(1);
        due("its bytes", h.written(0), "AB\u00ff\u0080\0DEFGHIJKLMN");
        h.house.feed(0x57202241, 0, 0, 0, 0);
        h.house.end(4);
        due("behind what is there", h.house.feed(0x42220000, 0, 0, 0, 0), 24);
        h.house.end(6);
        due("process", h.house.process(), 1);
        h.house.turns(1);
        due("its bytes", h.written(1), "AB");
        says("FULL when there would be more than 4000");
        h = fresh();
        for (int i = 1; i <= 200; i++) due("feed", h.house.feed(i, -i, 0, Integer.MIN_VALUE, Integer.MAX_VALUE), 20 * i);
        due("feed", h.house.feed(1, 2, 3, 4, 5), FULL);
        due("nothing came", h.house.end(4000), 4000);
        due("nothing came", h.house.end(4001), NONE);
        for (int n : new int[] {3999, 3981}) {
            h.house.end(n);
            due("feed behind " + n, h.house.feed(1, 2, 3, 4, 5), FULL);
        }
        h.house.end(3980);
        due("feed behind 3980", h.house.feed(1, 2, 3, 4, 5), 4000);
        h.house.end(3979);
        due("feed behind 3979", h.house.feed(1, 2, 3, 4, 5), 3999);
    }

    private static void ends() {
        says("The tape is cut behind its first n bytes: n. NONE");
        House h = fresh();
        due("of an empty one", h.house.end(0), 0);
        for (int n : new int[] {1, -1, Integer.MIN_VALUE, Integer.MAX_VALUE}) due("end " + n, h.house.end(n), NONE);
        h.house.feed(1, 2, 3, 4, 5);
        due("end", h.house.end(21), NONE);
        due("end", h.house.end(20), 20);
        due("end", h.house.end(19), 19);
        due("end", h.house.end(20), NONE);
        due("end", h.house.end(-1), NONE);
        due("end", h.house.end(0), 0);
        due("end", h.house.end(1), NONE);
    }

    private static int save(House h, String tape, int n) {
        h.tape(m(tape));
        return h.house.save(n);
    }

    private static House filled() {
        House h = house("F I=1:1:388 S ^A=$J(``,$S(I<388:250,1:114))");
        turns(h, 800);
        due("bytes", h.house.count(13), 99192);
        return h;
    }

    private static void saves() {
        says("The first n bytes of the tape are a NAME, those behind it the text of the routine that is saved by it, in place of one: how many lines");
        House h = fresh();
        due("save", save(h, "R W 1", 1), 1);
        due("in its place", save(h, "R W 2\n W 3\n", 1), 3);
        due("routines", h.house.count(0), 1);
        due("it is that", h.run("D ^R"), "23");
        due("a name alone", save(h, "ABCDEFGH", 8), 1);
        due("a name and more", save(h, "ABCDEFGH W 4", 8), 1);
        due("it is that", h.run("D ^ABCDEFGH"), "4");
        due("A is the name, B the label", save(h, "AB W 5", 1), 1);
        due("it is that", h.run("D B^A"), "5");
        says("in place of one: nothing of that stays");
        for (String was : new String[] {"A(X) W 1\n .W 2\nB Q", "A(X) W 1 ("}) {
            h = fresh();
            for (int i = 0; i < 3; i++) save(h, "R" + was, 1);
            for (int i = 0; i < 3; i++) due("save", save(h, "RA W 1 Q\n W 2", 1), 2);
            due("no formals", h.run("D A^R D A^R(1)"), "1{,M58,}");
            due("no label, no points", h.run("D +2^R D B^R"), "2{,M13,}");
        }
        says("NONE (n 1 .. 8, and not more than the tape has)");
        for (int n : new int[] {0, -1, 9, 7, Integer.MIN_VALUE, Integer.MAX_VALUE}) due("save " + n, save(h, "AB W 1", n), NONE);
        due("an empty tape", save(h, "", 1), NONE);
        due("save 6 of 6", save(h, "ABCDEF", 6), 1);
        due("save 7 of 6", save(h, "ABCDEF", 7), NONE);
        due("9 bytes", save(h, "ABCDEFGHI", 9), NONE);
        says("BAD (no NAME; a text of more than 3000 bytes)");
        for (String bad : new String[] {"1", "_", " ", "A ", "A%", "A.", "^A", "AB(", "\u00c1"}) due("save " + bad, save(h, bad, bad.length()), BAD);
        due("3000", save(h, "R ;" + "x".repeat(2998), 1), 1);
        due("3001", save(h, "R ;" + "x".repeat(2999), 1), BAD);
        due("3001 with a fault", save(h, "R(" + "x".repeat(3000), 1), BAD);
        due("no NAME with a fault", save(h, "1(", 1), BAD);
        due("NONE before BAD", save(h, "1(", 3), NONE);
        says("-10 less the place of its FAULT (from 0 on)");
        due("fault", save(h, "R(", 1), -10);
        due("fault", save(h, "R ( ", 1), -11);
        due("fault", save(h, "R W 1,", 1), -15);
        due("fault", save(h, "ABC;", 3), -10);
        due("fault", save(h, "R ;" + "x".repeat(2995) + "\n(", 1), -10 - 2998);
        says("STATE ..., FULL (16 routines; the disk)");
        h = fresh();
        for (int i = 0; i < 16; i++) due("save", save(h, "R" + i, i < 10 ? 2 : 3), 1);
        due("the 17th", save(h, "X", 1), FULL);
        due("a fault first", save(h, "X(", 1), -10);
        due("in place of one", save(h, "R7 W 7", 2), 1);
        due("in place of one", save(h, "R15 W 8", 3), 1);
        due("routines", h.house.count(0), 16);
        due("they are these", h.run("D ^R7,^R15 W $T(+1^R0)"), "78");
        h = filled();
        due("one byte too many", save(h, "R ;x", 1), FULL);
        due("a fault first", save(h, "R (x", 1), -11);
        due("BAD first", save(h, "1 ;x", 1), BAD);
        due("as many as there is room for", save(h, "R ;", 1), 1);
        due("in place of one", save(h, "R ;", 1), FULL);
    }

    private static void savesInUse() {
        says("STATE (a level of a living process is in that routine");
        House h = fresh();
        String text = "A R X\n Q\nB X `R X`\n Q\nC D  Q\n .R X\n Q\nD G A^S\nE() R X Q X";
        due("save", save(h, "R" + text, 1), 9);
        save(h, "SA R X", 1);
        for (String in : new String[] {"D A^R", "D B^R", "D C^R", "J A^R", "W $$E^R", "X `D A^R`", "G A^R"}) {
            int p = h.process(m(in));
            turns(h, 9);
            due(in, save(h, "R" + text, 1), STATE);
            due("a fault before", save(h, "R(", 1), -10);
            due("BAD before", save(h, "R ;" + "x".repeat(2999), 1), BAD);
            due("another one", save(h, "S", 1), 1);
            save(h, "SA R X", 1);
            for (int i = p; i < h.house.count(3); i++) h.house.halt(i);
            due("it is over", save(h, "R" + text, 1), 9);
        }
        int p = h.process("D D^R");
        turns(h, 9);
        due("it went on in another one", save(h, "R" + text, 1), 9);
        due("it is in that", save(h, "SA R X", 1), STATE);
        h.house.halt(p);
        says("or the TSTART of its open transaction stands there, whose level is still there)");
        save(h, "TA TS () G A^S\nB TS () G C^S\nD TS () Q\nE TS () D F^S\n Q", 1);
        save(h, "SA R X\n TC\n R X\nC R X\n TRO\n R X\nF R X", 1);
        String t = "TA TS () G A^S\nB TS () G C^S\nD TS () Q\nE TS () D F^S\n Q";
        for (String in : new String[] {"A", "B"}) {
            p = h.process("D " + in + "^T");
            turns(h, 9);
            due("open", save(h, t, 1), STATE);
            h.tell(p, "");
            turns(h, 9);
            due("ended", save(h, t, 1), 5);
            h.house.halt(p);
        }
        p = h.process("D E^T");
        turns(h, 9);
        due("a level is there", save(h, t, 1), STATE);
        h.house.halt(p);
        p = h.process("D D^T R X");
        turns(h, 9);
        due("its level is over", save(h, t, 1), 5);
        h.house.halt(p);
        p = h.process("D A^T");
        turns(h, 9);
        h.house.halt(p);
        due("its process is over", save(h, t, 1), 5);
        says("STATE before FULL");
        h = fresh();
        save(h, "RA R X", 1);
        h.process("D ^R");
        h.process("F I=1:1:388 S ^A=$J(\"\",$S(I<388:250,1:98))");
        turns(h, 2400);
        due("bytes", h.house.count(13), 99176 + 11);
        due("FULL", save(h, "S ;" + "x".repeat(20), 1), FULL);
        due("STATE", save(h, "R ;" + "x".repeat(20), 1), STATE);
    }

    private static void processes() {
        says("A process whose lowest level is the tape, as the text of XECUTE (250 bytes at most): its number");
        House h = fresh();
        due("an empty one", h.process(""), 0);
        due("250 bytes", h.process("W \"" + "x".repeat(246) + "\""), 1);
        due("251 bytes", h.process("W \"" + "x".repeat(247) + "\""), BAD);
        due("251 bytes", h.process(";" + "x".repeat(250)), BAD);
        due("250 bytes", h.process(";" + "x".repeat(249)), 2);
        for (String bad : new String[] {" W 1", ".W 1", "A W 1", "W 1\n", "\n", "W", "W ", "1", "W 1,", "W \"x\ny\"", " ", "("}) due("no such line: " + bad, h.process(bad), BAD);
        due("blanks at its end", h.process("W 1  "), 3);
        turns(h, 20);
        due("written", h.written(3) + h.house.state(0, 0) + h.house.take(1), "14246");
        says("BAD, FULL (6 living, 24)");
        h = fresh();
        for (int i = 0; i < 6; i++) due("process", h.process("H 1"), i);
        due("a seventh", h.process("H 1"), FULL);
        due("BAD first", h.process("("), BAD);
        h.house.halt(5);
        due("in its place", h.process("H 1"), 6);
        h = fresh();
        for (int i = 0; i < 24; i++) {
            due("process", h.process("H 1"), i);
            h.house.halt(i);
        }
        due("the 25th", h.process("H 1"), FULL);
        due("BAD first", h.process("("), BAD);
    }

    private static void tells() {
        says("The tape is a line told to a process for READ: how many wait");
        House h = house("F I=1:1:30 R X W $L(X),` `");
        for (int i = 1; i <= 20; i++) due("tell", h.tell(0, "x".repeat(i == 1 ? 250 : i == 2 ? 0 : i)), i);
        says("FULL (20)");
        due("the 21st", h.tell(0, "x"), FULL);
        says("BAD (more than 250 bytes)");
        due("251 bytes", h.tell(0, "x".repeat(251)), BAD);
        says("NONE (no such one, or it is over)");
        for (int p : new int[] {1, -1, Integer.MIN_VALUE, Integer.MAX_VALUE}) {
            due("of " + p, h.tell(p, "x"), NONE);
            due("NONE before BAD", h.tell(p, "x".repeat(251)), NONE);
        }
        h.house.turns(4);
        due("one was read", h.house.state(0, 7), 19);
        due("250", h.written(0), "250 ");
        due("room for one", h.tell(0, "x"), 20);
        due("for no more", h.tell(0, "x"), FULL);
        turns(h, 100);
        due("in their order", h.written(0), "250 0 3 4 5 6 7 8 9 10 11 12 13 14 15 16 17 18 19 20 1 ");
        due("they wait again", h.tell(0, "\n"), 1);
        h.house.halt(0);
        due("it is over", h.tell(0, "x"), NONE);
        due("none wait", h.house.state(0, 7), 0);
    }

    private static void times() {
        says("The told second, not less than it was, 2000000000 at most: how much later it is");
        House h = fresh();
        due("time", h.house.time(0), 0);
        due("time", h.house.time(-1), NONE);
        due("time", h.house.time(Integer.MIN_VALUE), NONE);
        due("time", h.house.time(1), 1);
        due("time", h.house.time(1), 0);
        due("time", h.house.time(0), NONE);
        due("time", h.house.time(2000000001), NONE);
        due("time", h.house.time(Integer.MAX_VALUE), NONE);
        due("second", h.house.count(14), 1);
        due("time", h.house.time(2000000000), 1999999999);
        due("time", h.house.time(2000000000), 0);
        due("time", h.house.time(1999999999), NONE);
        due("second", h.house.count(14), 2000000000);
    }

    private static void seeds() {
        says("x of the turns: 1");
        House h = fresh();
        for (long x : new long[] {0, 1, -1, Long.MIN_VALUE, Long.MAX_VALUE}) due("seed", h.house.seed(x), 1);
        says("of the LIVING ones, by numbers, the one at the place x >>> 33 modulo how many they are");
        for (long seed : new long[] {-1, Long.MAX_VALUE, 77}) {
            h = house("F  W 1", "F  W 1");
            h.house.seed(seed);
            long x = seed * 6364136223846793005L + 1442695040888963407L;
            h.house.turns(1);
            due("of seed " + seed, h.house.state((int) ((x >>> 33) % 2), 9), 1);
        }
    }

    private static void turnsOf() {
        says("n TURNS (1 .. 400), or fewer, when none is living: how many of them were not IDLE");
        House h = house("F  S A=1");
        for (int n : new int[] {0, -1, 401, Integer.MIN_VALUE, Integer.MAX_VALUE}) due("turns " + n, h.house.turns(n), NONE);
        due("turns", h.house.count(6), 0);
        due("1", h.house.turns(1), 1);
        due("400", h.house.turns(400), 400);
        due("turns", h.house.count(6), 401);
        h.house.halt(0);
        due("none is living", h.house.turns(400), 0);
        due("turns", h.house.count(6), 401);
        h = house("W 1 W 2");
        due("fewer", h.house.turns(400), 2);
        due("turns", h.house.count(6), 2);
        h = house("H 5");
        due("IDLE ones", h.house.turns(10), 1);
        due("turns", h.house.count(6) * 100 + h.house.count(7), 1009);
        h = fresh();
        due("none at all", h.house.turns(1), 0);
        due("NONE", h.house.turns(0), NONE);
    }

    private static void halts() {
        says("A living process is over, as by HALT, with nothing told to its levels: how many levels it had");
        House h = fresh();
        save(h, "RA S $ET=`W 9` L A S ^A=1,B=1 TS  S ^A=2 R X W 8", 1);
        h.process("S $ET=\"W 7\" X \"D ^R\"");
        turns(h, 20);
        due("halt", h.house.halt(0), 3);
        due("over, not by an error", h.house.state(0, 0), 4);
        due("nothing told", h.written(0) + h.code(0), "");
        due("locks, locals, copies, $TLEVEL", h.house.count(5) + h.house.count(2) + h.house.state(0, 3), 0);
        due("undone", h.look(0, "^A", 0) + h.house.count(1), "11");
        says("NONE, STATE (it is over)");
        due("again", h.house.halt(0), STATE);
        for (int p : new int[] {-1, 1, 24, Integer.MAX_VALUE, Integer.MIN_VALUE}) due("halt " + p, h.house.halt(p), NONE);
        due("one that did not begin", h.process("W 1") + h.house.halt(1), 2);
        h.process("");
        turns(h, 1);
        due("one that ended", h.house.halt(2), STATE);
        h.process("W 1/0");
        turns(h, 1);
        due("one that ended by an error", h.house.halt(3), STATE);
    }

    private static void state(House h, int process, int... want) {
        for (int i = 0; i < want.length; i++) due("state " + i + " of " + process, h.house.state(process, i), want[i]);
    }

    private static void states() {
        says("0 it goes on, 1 it waits for locks, 2 for a time (HANG), 3 for a line, 4 it is over, 5 over by an error");
        House h = house("F  W ``", "L A R X", "", "W 1/0", "H 9");
        turns(h, 40);
        h.process("L A");
        turns(h, 40);
        int[] want = {0, 3, 4, 5, 2, 1};
        for (int i = 0; i < 6; i++) due("process " + i, h.house.state(i, 0), want[i]);
        says("1 how many levels it has, 2 $TEST, 3 $TLEVEL, 4 $TRESTART, 5 $X, 6 $Y, 7 lines that wait, 8 bytes written and kept, 9 commands and rounds that it began, 10 nodes locked, 11 values of its locals that are not hidden");
        h = fresh();
        h.process("W 1");
        state(h, 0, 0, 1, 0, 0, 0, 0, 0, 0, 0, 0, 0, 0);
        h.house.turns(1);
        state(h, 0, 4, 0, 0, 0, 0, 1, 0, 0, 1, 1, 0, 0);
        h = fresh();
        save(h, "RA(V) I 1 N B TS () TRE:$TR<2  TS  L A,+B,+B S V(1)=1,B=2 W !!,`abc` R X R X", 1);
        h.process("S A=1,B=9 D A^R(.A)");
        h.tell(0, "1");
        h.tell(0, "2");
        turns(h, 60);
        // A and V are one, X has two lines: the values are A, A(1), B, X
        state(h, 0, 4);
        h = fresh();
        save(h, "RA(V) I 1 N B TS () TRE:$TR<2  TS  L A,+B,+B S V(1)=1,B=2 W !!,`abc` H 5", 1);
        h.process("S A=1,B=9 D A^R(.A)");
        h.tell(0, "1");
        h.tell(0, "2");
        turns(h, 60);
        // S, D, I, N, three TS and three TRE, TS, L, S, W, H
        state(h, 0, 2, 2, 1, 2, 2, 3, 2, 2, 5, 2 + 2 + 6 + 5, 2, 3);
        due("all values", h.house.count(2), 4);
        says("NONE");
        for (int what : new int[] {-1, 12, Integer.MIN_VALUE, Integer.MAX_VALUE}) due("what " + what, h.house.state(0, what), NONE);
        for (int p : new int[] {-1, 1, 24, Integer.MIN_VALUE, Integer.MAX_VALUE}) due("process " + p, h.house.state(p, 0), NONE);
    }

    private static void statesOver() {
        says("(of one that is over 0 for 1, 3, 4, 7, 10, 11)");
        String text = "I 1 TS () TRE:$TR<1  L A S B=1 W !,`ab` ";
        for (String end : new String[] {"H", "W 1/0", "R X"}) {
            House h = house(text + end + (end.equals("R X") ? " R X" : ""));
            h.tell(0, "x");
            turns(h, 40);
            if (end.equals("R X")) h.tell(0, "");
            if (end.equals("R X")) due("halt", h.house.halt(0), 1);
            int began = end.equals("R X") ? 1 + 4 + 3 + 2 : 1 + 4 + 3 + 1;
            state(h, 0, end.equals("W 1/0") ? 5 : 4, 0, 1, 0, 0, 2, 1, 0, 3, began, 0, 0);
        }
    }

    private static void written() {
        says("Byte i of what a process wrote and was kept; NONE");
        House h = house("W `ab` R X W `c`", "W $J(``,250)");
        turns(h, 20);
        int[] want = {'a', 'b', NONE, NONE};
        for (int i = 0; i < 4; i++) due("byte " + i, h.house.written(0, i), want[i]);
        for (int i : new int[] {-1, Integer.MIN_VALUE, Integer.MAX_VALUE}) due("byte " + i, h.house.written(0, i), NONE);
        for (int p : new int[] {-1, 2, 24, Integer.MAX_VALUE}) due("of process " + p, h.house.written(p, 0), NONE);
        due("of one that is over", h.house.written(1, 249) * 1000 + h.house.written(1, 250), 32 * 1000 - 1);
        says("What a process wrote is taken away: how many bytes");
        due("take", h.house.take(0), 2);
        due("take", h.house.take(0), 0);
        due("byte 0", h.house.written(0, 0), NONE);
        due("of one that is over", h.house.take(1), 250);
        due("again", h.house.take(1), 0);
        h.tell(0, "");
        turns(h, 9);
        due("what it wrote then", h.written(0) + h.house.take(0), "c1");
        for (int p : new int[] {-1, 2, 24, Integer.MAX_VALUE, Integer.MIN_VALUE}) due("of process " + p, h.house.take(p), NONE);
    }

    private static void codes() {
        says("$ECODE of a process (as it was when it was over) is the RESULT: its length");
        House h = house("W 1/0", "W 1", "S $ET=`R X` W A", "S $EC=`,`_$J(1,248)_`,`", "S $ET=`S $EC=````` W 1/0");
        turns(h, 60);
        int[] want = {4, 0, 4, 250, 0};
        String[] codes = {",M9,", "", ",M6,", "," + " ".repeat(247) + "1,", ""};
        for (int i = 0; i < 5; i++) {
            due("code of " + i, h.house.code(i), want[i]);
            due("the RESULT", h.result(), codes[i]);
        }
        h.house.halt(2);
        due("halted", h.code(2), ",M6,");
        for (int p : new int[] {-1, 5, 24, Integer.MAX_VALUE, Integer.MIN_VALUE}) due("code of " + p, h.house.code(p), NONE);
        due("nothing is changed", h.result(), ",M6,");
    }

    private static void level(House h, int k, String text, int line, String routine) {
        due("level " + k, h.house.level(0, k, 0), text.length());
        due("its line", h.result(), text);
        due("its number", h.house.level(0, k, 1), line);
        due("no RESULT of it", h.result(), text);
        due("its routine", h.house.level(0, k, 2), routine.length());
        due("its routine", h.result(), routine);
    }

    private static void levels() {
        says("The line in which level k (0 the lowest) of a living process is, or the text of its trap that it is in, is the RESULT: its length; its number from 1 on (1 of XECUTE and the like); its routine's name is the RESULT (0 of XECUTE)");
        House h = fresh();
        save(h, "ABCDEFGHA ;\n D  ;x\n .\n .X `R X`\nG S $ET=`R Y` W 1/0\nL " + ";" + "y".repeat(2900) + "\n", 8);
        h.process("D ^ABCDEFGH D G^ABCDEFGH");
        due("levels", h.house.state(0, 1), 1);
        level(h, 0, "D ^ABCDEFGH D G^ABCDEFGH", 1, "");
        turns(h, 9);
        level(h, 0, "D ^ABCDEFGH D G^ABCDEFGH", 1, "");
        level(h, 1, " D  ;x", 2, "ABCDEFGH");
        level(h, 2, " .X \"R X\"", 4, "ABCDEFGH");
        level(h, 3, "R X", 1, "");
        says("NONE");
        due("level 4", h.house.level(0, 4, 0), NONE);
        for (int k : new int[] {-1, Integer.MIN_VALUE, Integer.MAX_VALUE}) due("level " + k, h.house.level(0, k, 0), NONE);
        for (int what : new int[] {-1, 3, Integer.MAX_VALUE}) due("what " + what, h.house.level(0, 0, what), NONE);
        for (int p : new int[] {-1, 1, Integer.MAX_VALUE}) due("process " + p, h.house.level(p, 0, 0), NONE);
        due("nothing is changed", h.result(), "");
        says("NONE: no level is there any more");
        h.tell(0, "");
        turns(h, 9);
        due("one that was", h.house.level(0, 2, 0), NONE);
        due("one that was", h.house.level(0, h.house.state(0, 1), 1), NONE);
        says("or the text of its trap that it is in");
        due("a level's trap", h.house.level(0, 1, 0), 3);
        due("its text", h.result(), "R Y");
        due("its number", h.house.level(0, 1, 1), 1);
        says("of a living process");
        h.house.halt(0);
        due("over", h.house.level(0, 0, 0), NONE);
        says("a line may be long");
        h = fresh();
        save(h, "RA R X ;" + "y".repeat(2900), 1);
        h.process("D ^R");
        turns(h, 9);
        due("its length", h.house.level(0, 1, 0), 7 + 2900);
        due("its last byte", h.house.result(2906), 'y');
        due("none behind", h.house.result(2907), NONE);
    }

    private static void look(House h, int p, String node, String value, String forth, String back, String query, String data) {
        String[] want = {value, forth, back, query, data};
        for (int what = 0; what < 5; what++) due(node + ", " + what, h.look(p, m(node), what), want[what]);
    }

    private static void looks() {
        says("Of a local (without ^; as the process's highest level has it) or a global (of the house, whatever process is): what = 0 the value is the RESULT: its length; 1, 2 $ORDER forth, back, 3 $QUERY: the RESULT: its length; 4 DATA");
        House h = house("S A=``,A(1)=$J(1,250),A(1,2)=3,A(`x`)=4,B(5)=6,^A(1)=7,^A(-1)=8,^B=9 X `N A S A=5 R X`");
        turns(h, 20);
        look(h, 0, "A", "5", "B", "", "", "1");
        look(h, 0, "A(1)", "-1", "", "", "", "0");
        look(h, 0, "B", "-1", "", "A", "B(5)", "10");
        h.tell(0, "");
        h = house("S A=``,A(1)=$J(1,250),A(1,2)=3,A(`x`)=4,B(5)=6,^A(1)=7,^A(-1)=8,^B=9 R X");
        turns(h, 20);
        look(h, 0, "A", "", "B", "", "A(1)", "11");
        look(h, 0, "A(1)", " ".repeat(249) + "1", "x", "", "A(1,2)", "11");
        look(h, 0, "A(1,2)", "3", "", "", "A(\"x\")", "1");
        look(h, 0, "A(`x`)", "4", "", "1", "", "1");
        look(h, 0, "A(`y`)", "-1", "", "x", "", "0");
        look(h, 0, "Z", "-1", "", "B", "", "0");
        look(h, 77, "^A", "-1", "^B", "", "^A(-1)", "10");
        look(h, -1, "^A(-1)", "8", "1", "", "^A(1)", "1");
        look(h, 0, "^A(1)", "7", "", "-1", "", "1");
        look(h, Integer.MAX_VALUE, "^B", "9", "", "^A", "", "1");
        look(h, 0, "^%", "-1", "^A", "", "", "0");
        h.tape("A");
        due("the length of an empty value", h.house.look(0, 0), 0);
        h.tape("A(1)");
        due("the length", h.house.look(0, 0), 250);
        h.tape("A(\"x\")");
        due("the length of none", h.house.look(0, 1), 0);
        says("(For 1 to 3 a last empty subscript may be.)");
        String[] empty = {"A(``)", "-2", "1", "x", "A(1)", "-2", "A(1,``)", "-2", "2", "2", "A(1,2)", "-2", "^A(``)", "-2", "-1", "1", "^A(-1)", "-2", "C(``)", "-2", "", "", "", "-2"};
        for (int i = 0; i < empty.length; i += 6) for (int what = 0; what < 5; what++) due(empty[i] + ", " + what, h.look(0, m(empty[i]), what), empty[i + 1 + what]);
        for (int what = 0; what < 5; what++) due("not last, " + what, h.look(0, m("A(``,1)"), what), "-2");
        due("behind the greatest node", h.look(0, m("A(`" + "x".repeat(60) + "`,`" + "y".repeat(33) + "`,``)"), 1), "");
        due("and one more", h.look(0, m("A(`" + "x".repeat(60) + "`,`" + "y".repeat(34) + "`,``)"), 1), "-2");
    }

    private static void looksRefused() {
        says("BAD (the text)");
        House h = house("S A=1 R X");
        turns(h, 9);
        String[] bad = {"", " ", "1", "_", "A ", " A", "A(", "A()", "A(1", "A(1))", "A(1)x", "A(1)(2)", "A(1,)", "A(,1)", "A(01)", "A(1.0)", "A(.50)", "A(-0)", "A(+1)", "A(1E2)", "A(x)", "A(`1`)", "A(`0`)", "A(`-.5`)", "A(`x)", "A(`x`y)", "A(`x``)", "A(x`)", "A(1 )", "A(1, 2)", "A(1;2)",
            "ABCDEFGHI", "%%", "A.", "A%", "A;1)", "A.1)", "A`x`)", "A,1)", "A1)", "@A", "$A", "(1)", "A(1,2,3,4,5,6,7)", "A(`" + "x".repeat(61) + "`)", "A(`" + "x".repeat(60) + "`,`" + "y".repeat(36) + "`)", "A(1" + "0".repeat(30) + ")"};
        for (String b : bad) {
            for (int what = 0; what < 5; what++) {
                due("[" + b + "], " + what, h.look(0, m(b), what), "-2");
                due("[^" + b + "], " + what, h.look(9, m("^" + b), what), "-2");
            }
        }
        for (String right : new String[] {"A(`x``y`)", "A(`" + "x".repeat(60) + "`)", "A(`" + "x".repeat(60) + "`,`" + "y".repeat(35) + "`)", "A(1,2,3,4,5,6)", "A(1" + "0".repeat(29) + ")", "A(`1" + "0".repeat(30) + "`)", "A(-.5,0,`-0`)", "ABCDEFGH", "ABCDEFG(1)", "%", "A(`\n`)", "A(`,`,`)`)"}) due("[" + right + "]", h.look(0, m(right), 4), "0");
        says("NONE (what; a value that is not there; for a local: no such process, or it is over). (NONE of what, of a process before BAD; of a value behind it)");
        for (int what : new int[] {-1, 5, Integer.MIN_VALUE, Integer.MAX_VALUE}) {
            due("what " + what, h.look(0, "A", what), "-1");
            due("before BAD", h.look(0, "(", what), "-1");
            due("of a global before BAD", h.look(0, "^(", what), "-1");
            due("of an empty tape", h.look(0, "", what), "-1");
        }
        for (int p : new int[] {-1, 1, 24, Integer.MIN_VALUE, Integer.MAX_VALUE}) {
            due("process " + p, h.look(p, "A", 4), "-1");
            due("before BAD", h.look(p, "(", 4), "-1");
            due("an empty tape", h.look(p, "", 4), "-1");
            due("a global", h.look(p, "^A", 4), "0");
            due("a bad global", h.look(p, "^", 4), "-2");
        }
        due("no value", h.look(0, "B", 0), "-1");
        due("no value of a global", h.look(0, "^B", 0), "-1");
        due("BAD before a value", h.look(0, "B(", 0), "-2");
        h.house.halt(0);
        due("it is over", h.look(0, "A", 4), "-1");
        due("before BAD", h.look(0, "(", 4), "-1");
    }

    private static void results() {
        says("Byte i of the RESULT; NONE");
        House h = house("S ^A=$C(0,255,65)");
        turns(h, 9);
        due("none yet", h.house.result(0), NONE);
        h.look(0, "^A", 0);
        int[] want = {0, 255, 65, NONE};
        for (int i = 0; i < 4; i++) due("byte " + i, h.house.result(i), want[i]);
        for (int i : new int[] {-1, Integer.MIN_VALUE, Integer.MAX_VALUE}) due("byte " + i, h.house.result(i), NONE);
        h.look(0, "^A", 4);
        due("DATA is no RESULT", h.house.result(2), 65);
        h.look(0, "^B", 0);
        h.look(0, "^B(", 3);
        due("a refusal changes nothing", h.house.result(2), 65);
        h.look(0, "^B", 3);
        due("an empty one", h.house.result(0), NONE);
    }

    private static void locks() {
        says("Of the i-th lock (by processes, then their nodes by order, those without ^ first, names by bytes): what = 0 the process, 1 how many times; 2 its node's text is the RESULT: its length");
        House h = house("L (a,B(10),B(9),B,^A,B(`x`),B(-1),%,^%(1),AB,A),+(B,B) R X", "R X L +(C,^B) R X", "L +D(1) R X");
        turns(h, 40);
        h.tell(1, "");
        turns(h, 40);
        String[] nodes = {"%", "A", "AB", "B", "B(-1)", "B(9)", "B(10)", "B(\"x\")", "a", "^%(1)", "^A", "C", "^B", "D(1)"};
        for (int i = 0; i < nodes.length; i++) {
            due("process of lock " + i, h.house.lock(i, 0), i < 11 ? 0 : i < 13 ? 1 : 2);
            due("times of lock " + i, h.house.lock(i, 1), i == 3 ? 3 : 1);
            due("length of lock " + i, h.house.lock(i, 2), nodes[i].length());
            due("lock " + i, h.result(), nodes[i]);
        }
        says("NONE");
        for (int i : new int[] {-1, nodes.length, Integer.MIN_VALUE, Integer.MAX_VALUE}) for (int what = 0; what < 3; what++) due("lock " + i + ", " + what, h.house.lock(i, what), NONE);
        for (int what : new int[] {-1, 3, Integer.MAX_VALUE}) due("what " + what, h.house.lock(0, what), NONE);
        due("nothing is changed", h.result(), "D(1)");
        due("none", fresh().house.lock(0, 0), NONE);
    }

    private static void counts() {
        says("what = 0 routines, 1 values of globals (of copies, too), 2 values of locals, 3 processes, 4 living ones, 5 locks, 6 turns, 7 IDLE ones, 8 restarts, 9 CONFLICTS, 10 transactions that ended by TCOMMIT, 11 blocks used, 12 units that wait, 13 their bytes, 14 the told second");
        House h = house("S ^A=1,^A(1)=2,B=3,B(1)=4 L A,+B TS * S X=^A R Y", "TS  TC", "TS () TRE:$TR<2  TC");
        h.house.time(7);
        turns(h, 60);
        h.process("S ^A=2");
        turns(h, 60);
        h.tell(0, "");
        save(h, "R", 1);
        int turns = h.house.count(6), idle = h.house.count(7);
        // A, A(1), their copies; B, B(1), what was kept of them, X
        int[] want = {1, 4, 5, 4, 1, 2, turns, idle, 2, 0, 2, 0, 4, 7 + 9 + 7 + 6, 7};
        for (int what = 0; what < 15; what++) due("count " + what, h.house.count(what), want[what]);
        due("turns", turns > 60 && idle < turns ? 1 : 0, 1);
        h = house("TS  S ^A=1 R X TC");
        turns(h, 20);
        h.process("S ^A=2");
        turns(h, 20);
        h.tell(0, "");
        turns(h, 20);
        due("CONFLICTS", h.house.count(9), 1);
        due("it did not end by TCOMMIT", h.house.count(10), 0);
        says("NONE");
        for (int what : new int[] {-1, 15, Integer.MIN_VALUE, Integer.MAX_VALUE}) due("count " + what, h.house.count(what), NONE);
    }

    private static void disk() {
        says("THE THEOREM, beneath");
        House h = house("F I=1:1:40 S ^A(I)=1,B(I)=1 K:I#3=0 ^A(I-1),B(I-1)");
        turns(h, 300);
        due("sound", h.house.sound(), 1);
        says("A SYNC: how many blocks it wrote");
        int bytes = h.house.count(13);
        due("sync", h.house.sync(), (bytes + 247) / 248);
        due("sync", h.house.sync(), 0);
        due("used", h.house.count(11), (bytes + 247) / 248);
        says("NONE (n -1 .. 2000, tear 0 .. 255)");
        for (int n : new int[] {-2, 2001, Integer.MIN_VALUE, Integer.MAX_VALUE}) due("cut " + n, h.house.cut(n, 0), NONE);
        for (int tear : new int[] {-1, 256, Integer.MIN_VALUE, Integer.MAX_VALUE}) due("tear " + tear, h.house.cut(0, tear), NONE);
        due("not set by these", h.process("S ^A=1") + turns(h, 9) + h.house.sync(), 1 + 1 + 1);
        for (int[] right : new int[][] {{-1, 0}, {-1, 255}, {0, 0}, {0, 255}, {2000, 0}, {2000, 255}, {-1, 7}}) due("cut", h.house.cut(right[0], right[1]), 1);
        says("LOST (power went)");
        h.process("S ^A=2");
        turns(h, 9);
        h.house.cut(0, 255);
        due("sync", h.house.sync(), LOST);
        says("START: how many units were done again. STATE when it is not DOWN");
        due("start", h.house.start() > 0 ? 1 : 0, 1);
        due("start", h.house.start(), STATE);
        due("A", h.look(0, "^A", 0), "1");
        says("Byte i (0 .. 255) of a block; NONE");
        due("octet", h.house.octet(1, 1), 1);
        due("octet", h.house.octet(400, 255), 0);
        int[][] none = {{0, 0}, {401, 0}, {-1, 0}, {1, -1}, {1, 256}, {400, 256}, {Integer.MAX_VALUE, 0}, {Integer.MIN_VALUE, 0}, {1, Integer.MAX_VALUE}, {1, Integer.MIN_VALUE}, {1 << 24, 0}, {(1 << 24) + 1, 0}};
        for (int[] n : none) {
            due("octet", h.house.octet(n[0], n[1]), NONE);
            due("poke", h.house.poke(n[0], n[1], 1), NONE);
        }
        says("Byte i of a block is xored with the lowest byte of a mask: what it is then");
        due("poke", h.house.poke(400, 255, 0x1FF), 255);
        due("poke", h.house.poke(400, 255, -1), 0);
        due("poke", h.house.poke(400, 255, 0x100), 0);
        due("poke", h.house.poke(400, 255, 0x80), 0x80);
        due("octet", h.house.octet(400, 255), 0x80);
        due("poke", h.house.poke(1, 0, 0), 0);
        says("The first block of those used that is not RIGHT; NONE");
        due("one that is not used", h.house.verify(), NONE);
        h.house.poke(2, 9, 1);
        due("verify", h.house.verify(), 2);
        h.house.poke(1, 9, 1);
        due("verify", h.house.verify(), 1);
        h.house.poke(1, 9, 1);
        h.house.poke(2, 9, 1);
        int used = h.house.count(11);
        h.house.poke(used, 255, 1);
        due("the last", h.house.verify(), used);
        h.house.poke(used, 255, 1);
        h.house.poke(used + 1, 0, 1);
        due("behind the last", h.house.verify(), NONE);
    }

    private static void down() {
        says("DOWN");
        House h = house("S ^A=`abc` R X");
        save(h, "R W 1", 1);
        turns(h, 9);
        h.look(0, "^A", 0);
        h.house.cut(0, 10);
        h.tape("W 1");
        due("sync", h.house.sync(), LOST);
        MumpsHouse x = h.house;
        int[] refused = {x.save(1), x.save(0), x.process(), x.tell(0), x.tell(-1), x.time(1), x.time(-1), x.seed(1), x.turns(1), x.turns(0), x.halt(0), x.halt(-1), x.state(0, 0), x.state(-1, -1), x.written(0, 0), x.written(-1, -1), x.take(0), x.take(-1), x.code(0), x.code(-1),
            x.level(0, 0, 0), x.level(-1, -1, -1), x.look(0, 0), x.look(-1, -1), x.lock(0, 0), x.lock(-1, -1), x.count(0), x.count(-1), x.sound(), x.sync(), x.cut(0, 0), x.cut(-9, -9), x.verify()};
        for (int i = 0; i < refused.length; i++) due("call " + i, refused[i], DOWN);
        says("(Also when DOWN.)");
        due("result", h.result(), "abc");
        due("octet", x.octet(1, 1), 1);
        due("octet", x.octet(0, 0), NONE);
        due("poke", x.poke(1, 1, 2), 3);
        due("poke", x.poke(401, 1, 2), NONE);
        says("What reads the tape (whether refused or not, but DOWN) uses it up");
        due("not when DOWN", x.end(3), 3);
        due("end", x.end(4), NONE);
        due("feed", x.feed(0x2C320000, 0, 0, 0, 0), 23);
        due("end", x.end(5), 5);
        due("start", x.start(), 0);
        due("process", x.process(), 0);
        h.house.turns(1);
        due("of that tape", h.written(0), "12");
        String[] tapes = {"W 1", "(", "x".repeat(300)};
        for (String tape : tapes) {
            h.tape(tape).house.process();
            due("process", h.house.end(1), NONE);
            h.tape(tape).house.tell(0);
            due("tell", h.house.end(1), NONE);
            h.tape(tape).house.save(1);
            due("save", h.house.end(1), NONE);
            h.tape(tape).house.save(0);
            due("save 0", h.house.end(1), NONE);
            h.tape(tape).house.look(0, 0);
            due("look", h.house.end(1), NONE);
            h.tape(tape).house.look(0, 9);
            due("look 9", h.house.end(1), NONE);
        }
        h.tape("W 1");
        h.house.turns(1);
        h.house.code(0);
        h.house.count(0);
        due("others leave it", h.house.end(3), 3);
    }

    /** All that can be asked of a house, in a row. */
    private static String shown(House h) {
        StringBuilder b = new StringBuilder();
        for (int i = 0; i < 15; i++) b.append(h.house.count(i)).append(' ');
        for (int p = 0; p < 3; p++) for (int i = 0; i < 12; i++) b.append(h.house.state(p, i)).append(' ');
        b.append(h.written(0)).append(h.result()).append(h.house.verify()).append(h.house.sound());
        return b.toString();
    }

    private static void refusedChangesNothing() {
        says("What is refused changes nothing");
        House h = house("S ^A=`abc`,A=1 L A R X", "H 9");
        save(h, "R W 1", 1);
        turns(h, 9);
        h.look(0, "^A", 0);
        String was = shown(h);
        h.process("(");
        save(h, "1 W 1", 1);
        save(h, "R(", 1);
        save(h, "R", 0);
        h.tell(0, "x".repeat(251));
        h.tell(9, "x");
        h.house.time(-1);
        h.house.time(2000000001);
        h.house.turns(0);
        h.house.turns(401);
        h.house.halt(9);
        h.house.state(9, 9);
        h.house.written(9, 9);
        h.house.take(9);
        h.house.code(9);
        h.house.level(0, 9, 0);
        h.house.level(0, 0, 9);
        h.look(0, "(", 0);
        h.look(0, "B", 0);
        h.look(0, "^B", 9);
        h.house.lock(9, 2);
        h.house.lock(0, 9);
        h.house.count(99);
        h.house.cut(-2, 0);
        h.house.cut(0, 256);
        h.house.start();
        h.house.octet(0, 0);
        h.house.poke(0, 0, 1);
        h.house.end(99);
        due("as it was", shown(h), was);
        due("the routine", h.run("D ^R"), "1");
        due("no power is set", h.house.sync(), 1);
    }
}

/** Parts 8 and 9 at their edges: processes, turns, locks, transactions. */
public final class BoundaryProcessTest extends Boundary {
    public static void main(String[] args) {
        numbers();
        jobs();
        turns();
        waiting();
        barred();
        targets();
        reused();
        sixty();
        levels();
        copies();
        records();
        ends();
        restarts();
        kept();
        conflicts();
        House.report();
    }

    private static void numbers() {
        says("PROCESSES are numbered 0, 1, .. as they come (by process(), by JOB), 24 at most");
        House h = new House();
        h.save("R", "A W $J");
        for (int i = 0; i < 22; i += 2) {
            due("process", h.process("J ^R"), i);
            turns(h, 9);
            due("its JOB", h.written(i + 1), "" + (i + 1));
        }
        due("process", h.process("J ^R"), 22);
        due("process", h.process("J ^R"), 23);
        due("the 25th", h.process("W 1"), -4);
        turns(h, 20);
        due("no room for a JOB", h.code(22) + h.code(23), ",Z1,,Z1,");
        due("processes", h.house.count(3), 24);
        due("the 25th", h.process("W 1"), -4);
        says("6 LIVING at most; one lives till it is over");
        h = new House();
        h.save("R", "A H 9");
        for (int i = 0; i < 6; i++) due("process", h.process(i == 5 ? m("S $ET=`R X` J ^R") : "H 9"), i);
        due("a seventh", h.process("W 1"), -4);
        turns(h, 40);
        due("no room for a JOB", h.code(5), ",Z1,");
        due("living", h.house.count(4), 6);
        h.house.halt(3);
        due("living", h.house.count(4), 5);
        due("in its place", h.process("W 1"), 6);
        due("an eighth", h.process("W 1"), -4);
        turns(h, 40);
        due("it was over", h.process("J ^R"), 7);
        turns(h, 40);
        due("a JOB for which there was room when it was alone", h.code(7), ",Z1,");
        h.house.halt(0);
        h.process("J ^R W 5");
        h.house.halt(1);
        turns(h, 40);
        due("a JOB", h.written(8) + h.house.count(3) + h.house.count(4), "5104");
    }

    private static void jobs() {
        says("a process whose lowest level is that of the entry with its actuals, worked out here; nothing else of this one goes with it");
        House h = new House();
        h.save("R", m("A(X,Y,Z) W X,$D(Y),$D(Z),$D(V),$T,$X,$Y,$TL,$ST,$Q,`[`,$EC,$ET,`]`,$G(^(1))"));
        h.process(m("S ^A(1)=1,$ET=`W 1`,V=2 I 1 TS  L B W !,`abc` J A^R(V+1) J A^R() R X"));
        turns(h, 40);
        due("a JOB", h.written(1), "3000050000[]");
        due("without", h.written(2), "");
        due("its code", h.code(2) + h.code(1), ",M6,,M1,");
        due("locks", h.house.state(1, 10) + h.house.state(2, 10), 0);
        due("here", h.code(0), "");
        says("(M13, M58 are errors here; no room: Z1)");
        run("A Q", "J B^R", "{,M13,}");
        run("A Q", "J ^S", "{,M13,}");
        run("A Q", "J +0^R", "{,M13,}");
        run("A Q", "J A^R(1)", "{,M58,}");
        run("A(X) Q", "J A^R(1,2)", "{,M58,}");
        run("A(X) Q", "J A^R(1/0)", "{,M9,}");
        run("A Q", "J +-1^R", "{,Z4,}");
        says("Each has its locals, $TEST 0, $X, $Y, $ECODE and $ETRAP empty");
        h = house("S A=1 W $T,$X,$Y,`[`,$EC,$ET,`]`,$TL,$TR", "W $D(A),$T,$X,$Y,$TL");
        turns(h, 20);
        due("written", h.written(0) + "," + h.written(1), "010[]00,00200");
    }

    private static void turns() {
        says("the house's x (told by seed(), 0 at first) becomes likewise; of the LIVING ones, by numbers, the one at the place x >>> 33 modulo how many they are goes on");
        long[] seeds = {0, 1, -1, Long.MIN_VALUE, Long.MAX_VALUE, 12345};
        for (long seed : seeds) {
            House h = house("F  W 1", "H 1", "F  W 1", "F  W 1", "F  W 1");
            h.house.halt(1);
            if (seed != 0) h.house.seed(seed);
            long x = seed;
            int[] went = new int[5];
            int[] numbers = {0, 2, 3, 4};
            for (int i = 0; i < 60; i++) {
                h.house.turns(1);
                x = x * 6364136223846793005L + 1442695040888963407L;
                went[numbers[(int) ((x >>> 33) % 4)]]++;
                for (int p : numbers) due("of process " + p + " at turn " + i + " of seed " + seed, h.house.state(p, 9), went[p]);
            }
        }
        says("goes on, till it is to begin a command or a round of a FOR (also one of its extrinsics ..), waits, or is over");
        needs(1, "", "");
        needs(1, "", ";x");
        needs(1, "", "W 1");
        needs(2, "", "W 1 W 2");
        needs(1, "", "W 1,2,3,4");
        needs(1, "", "I 0 W 1 W 2");
        needs(2, "", "I 1 W 1");
        needs(2, "", "W:0 1 W:0 2");
        needs(1, "", "X ``");
        needs(3, "", "X `W 1`,`W 2`");
        needs(3, "A W 1\n W 2", "D ^R");
        needs(2, "A ;\n\n .W 9\n ;\n W 2", "D ^R");
        needs(3, "A S A=1\n Q A", "W $$^R");
        needs(5, "A S A=1\n Q A", "W $$^R,$$^R");
        needs(1 + 2 * 3, "", "F I=1:1:3 W I");
        needs(1 + 3, "", "F I=1:1:3");
        needs(1 + 2, "", "F I=1,2");
        needs(1, "", "F I=1:1:0 W 1");
        needs(3, "", "F  Q");
        needs(4, "A D  W 2\n .W 1\n", "D ^R");
        needs(3, "A G B\nB W 1", "D ^R");
        says("(A process begins by beginning its first command. Errors, traps' beginnings, ends of lines, levels and rounds end no turn.)");
        needs(1, "", "W 1/0");
        needs(3, "", "S $ET=`W 1` W 1/0 W 2");
        needs(2, "", "S $ET=`;` W 1/0 W 2");
        needs(2, "A W 1/0\n W 2", "D ^R W 3");
        House h = house("W 1 W 2");
        due("nothing is begun", h.house.state(0, 9), 0);
        h.house.turns(1);
        due("a turn", h.written(0) + h.house.state(0, 9) + h.house.state(0, 0), "110");
        h.house.turns(1);
        due("a turn", h.written(0) + h.house.state(0, 9) + h.house.state(0, 0), "1224");
        says("commands (also with a CONDITION that is not TRUE) and rounds that it began");
        h = house("W:0 1 F I=1:1:3 W:I=2 I");
        turns(h, 20);
        due("began", h.house.state(0, 9), 1 + 1 + 3 + 3);
    }

    private static void needs(int turns, String routine, String text) {
        House h = new House();
        if (!routine.isEmpty()) h.save("R", routine);
        h.process(m(text));
        due("turns of " + text, h.house.turns(100), turns);
        due("counted", h.house.count(6), turns);
    }

    private static void waiting() {
        says("What waits looks first whether it need no more: if not, the turn is IDLE");
        House h = house("H 5", "R X", "L A H 9");
        h.process("L A");
        turns(h, 30);
        due("IDLE ones", h.house.count(6) - h.house.count(7), 5);
        int idle = h.house.count(7);
        due("turns", h.house.turns(40), 0);
        due("IDLE ones", h.house.count(7), idle + 40);
        due("turns", h.house.count(6), 30 + 40);
        says("One that waited goes on in the same command");
        h = house("H 1,1 W 1", "R X,Y W X,Y", "L B,+A:1,+A:1 W $T");
        turns(h, 30);
        h.house.time(1);
        h.tell(1, "x");
        turns(h, 30);
        due("still waiting", h.house.state(0, 0) * 10 + h.house.state(1, 0), 23);
        h.house.time(2);
        h.tell(1, "y");
        turns(h, 30);
        due("written", h.written(0) + h.written(1) + h.written(2), "1xy1");
    }

    private static void bars(String held, String wanted, boolean barred) {
        House h = house("L " + held + " R X");
        turns(h, 9);
        h.process("L " + wanted + " W 1");
        turns(h, 20);
        due(held + " bars " + wanted, h.house.state(1, 0), barred ? 1 : 4);
    }

    private static void barred() {
        says("A node is BARRED for a process if another one holds it, one above or one below it (of the same name; ^ too)");
        String[] yes = {"A", "A", "A", "A(1)", "A(1)", "A", "A(1)", "A(1)", "A(1,2)", "A", "A", "A(1,2,3,4,5,6)", "A(1)", "A(1,2)", "^A", "^A", "^A(1)", "^A", "^A", "^A(`x`)", "(A,B)", "B(1)", "A", "(B,A)", "A(`x`)", "A(`x`,`y`)"};
        for (int i = 0; i < yes.length; i += 2) bars(m(yes[i]), m(yes[i + 1]), true);
        String[] no = {"A", "B", "A", "AA", "AA", "A", "A", "a", "A(1)", "A(2)", "A(1)", "A(12)", "A(12)", "A(1)", "A(1,2)", "A(1,3)", "A(`1.0`)", "A(1)", "^A(1)", "^A(2)", "(A,B)", "C", "A", "B(1)", "A(1)", "B", "^A", "^B(1)", "^A(1)", "^B", "A(1)", "B(1,2)"};
        for (int i = 0; i < no.length; i += 2) bars(m(no[i]), m(no[i + 1]), false);
        says("(those with ^ and those without are others)");
        bars("A", "^A", false);
        bars("^A", "A", false);
        bars("^A(1)", "A(1)", false);
        runs("L A(1) L +A W 1 L +A(1,2) W 2", "12");
        says("LOCKS are held on nodes (as told by REFs, which are not met as globals)");
        runs("S ^A(1)=1 L ^B(1) W ^(1)", "1", "S ^A(1)=1 L ^(2) W $NA(^(3))", "^A(3)", "L ^B(1) W ^(1)", "{,M1,}");
        House h = house("S ^A(1)=1 L ^(2) R X");
        turns(h, 9);
        h.house.lock(0, 2);
        due("a NAKED one", h.result(), "^A(2)");
    }

    private static String locks(House h) {
        StringBuilder b = new StringBuilder();
        for (int i = 0; h.house.lock(i, 0) >= 0; i++) {
            h.house.lock(i, 2);
            b.append(h.house.lock(i, 0)).append(h.result()).append(h.house.lock(i, 1)).append(' ');
        }
        return b.toString();
    }

    /** The locks behind this text, in which R X waits. */
    private static void held(String text, String want) {
        House h = house(text);
        turns(h, 40);
        due(text, locks(h), want);
    }

    private static void targets() {
        says("LOCK alone: all of this process go");
        held("L (A,^B(1)),+A L  R X", "");
        held("L (A,B) L:0  R X", "0A1 0B1 ");
        says("LOCK target: first all of it go (behind Z2, M1 of the target's), then the target's are taken (a node told twice twice)");
        held("L A,B R X", "0B1 ");
        held("L (A,A,B) R X", "0A2 0B1 ");
        held("L A S $ET=`R X` L A(``)", "0A1 ");
        held("L A S $ET=`R X` L ^(1)", "0A1 ");
        held("L A S $ET=`R X` L (B,A(``))", "0A1 ");
        held("L A S $ET=`R X` L B,A(``)", "0B1 ");
        says("+ without that; - takes one time of each away, as far as there are (never waits; with : e $TEST is 1)");
        held("L A,+B,+A R X", "0A2 0B1 ");
        held("L (A,A,A),-A R X", "0A2 ");
        held("L (A,A,A),-(A,A) R X", "0A1 ");
        held("L (A,B),-(A,A,C) R X", "0B1 ");
        held("L A,-A(1),-B,-^A R X", "0A1 ");
        held("L A L -A,-A R X", "");
        runs("L -A:0 W $T", "1", "L -A W $T", "0", "L A:0 W $T", "1", "L A W $T", "0", "I 1 L A W $T", "1");
        House h = house("L A R X");
        turns(h, 9);
        h.process("L -A:9 W $T R X");
        turns(h, 20);
        due("another's", locks(h) + h.written(1), "0A1 1");
        says("A target's are taken when none of them is BARRED, all at once; else it waits");
        h = house("L A R X");
        turns(h, 9);
        h.process("L (B,A,C) R X");
        turns(h, 9);
        due("none of them", locks(h) + h.house.state(1, 0), "0A1 1");
        h.house.halt(0);
        turns(h, 9);
        due("all of them", locks(h), "1A1 1B1 1C1 ");
        says("with : e it waits so many seconds (of 0 or less not at all), and $TEST is 1 if they were taken, else 0");
        for (int n : new int[] {-1, 0, 1, 5}) {
            h = house("L A R X");
            turns(h, 9);
            h.process("I 1 L A:" + n + " W $T R X");
            turns(h, 20);
            due("waits " + n, h.house.state(1, 0), n > 0 ? 1 : 3);
            if (n > 0) {
                h.house.time(n - 1);
                due("waits", turns(h, 9), 0);
            }
            h.house.time(Math.max(n, 0));
            turns(h, 9);
            due("then", h.written(1) + locks(h), "00A1 ");
        }
        for (int n = -1; n <= 0; n++) {
            h = house("L A R X");
            turns(h, 9);
            h.process("L A:" + n + ",+A:" + n + " W $T");
            due("not at all: turns of " + n, turns(h, 40), 2);
        }
        h = house("L A R X");
        turns(h, 9);
        h.process("L A:5 W $T R X");
        turns(h, 9);
        h.tell(0, "");
        turns(h, 9);
        due("taken in time", h.written(1) + locks(h), "11A1 ");
        h = house("L A R X");
        turns(h, 9);
        h.process("L A:5 W $T R X");
        turns(h, 9);
        h.house.time(5);
        h.house.halt(0);
        turns(h, 9);
        due("taken at its end", h.written(1) + locks(h), "11A1 ");
        h = house("L A R X");
        turns(h, 9);
        h.process("L A:.9 W $T");
        turns(h, 9);
        due("less than one", h.written(1), "0");
        says("What was let go stays so");
        h = house("L A R X");
        turns(h, 9);
        h.process("L B L A W 1");
        h.process("L C L A:0 W $T R X");
        turns(h, 30);
        due("locks", locks(h) + h.written(2), "0A1 0");
        says("A process that is over holds none");
        h = house("L (A,^B)", "L C W 1/0", "L D H", "L E R X");
        turns(h, 40);
        due("locks", locks(h), "3E1 ");
        h.house.halt(3);
        due("locks", locks(h), "");
    }

    private static void sixty() {
        says("(60 nodes with their processes at most, else Z1, none taken)");
        House h = house("F I=1:1:58 L +A(I) I I=58 L +(B,C) S $ET=`R X` L +(A(1),B,D)");
        turns(h, 800);
        due("locks", h.house.count(5), 60);
        due("code", h.code(0), ",Z1,");
        h.house.lock(0, 2);
        due("none taken", h.result() + h.house.lock(0, 1), "A(1)1");
        h.process("L X");
        turns(h, 20);
        due("another process", h.code(1), ",Z1,");
        h = house("F I=1:1:58 L +A(I) I I=58 L +(B,B,A(1),C,C) R X");
        turns(h, 800);
        due("no more nodes", h.house.count(5) + h.code(0), "60");
        h.process("L X:5");
        turns(h, 20);
        due("another process", h.code(1), ",Z1,");
        h.tell(0, "");
        turns(h, 20);
        due("over", h.house.count(5), 0);
        h = house("F I=1:1:59 L +A(I) I I=59 S $ET=`R X` L +(D,E)");
        turns(h, 800);
        due("two at once", h.house.count(5) + h.code(0), "59,Z1,");
        h = house("F I=1:1:59 L +A(I) I I=59 S $ET=`R X` L +(D,D),+(^D,D)");
        turns(h, 800);
        due("others", h.house.count(5) + h.code(0), "60,Z1,");
        h = house("F I=1:1:60 L +A(I) I I=60 S $ET=`R X` L +B");
        turns(h, 800);
        due("61", h.house.count(5) + h.code(0), "60,Z1,");
        h = house("F I=1:1:59 L +A(I) I I=59 L B R X");
        turns(h, 800);
        due("first all of it go", locks(h), "0B1 ");
    }

    /** What processes had when they were halted is not what others have behind them. */
    private static void reused() {
        says("There are 24 processes, 6 LIVING at most: each begins anew");
        String r = m("F() R X Q X\nH(N) R:N=0 X S Y=`H(`_(N-1)_`)` D @Y Q\nI " + repeated("F I=1", 20, " ") + " R X");
        String twenty = repeated("X", 20, ",");
        String[] texts = {"S (" + twenty + ")=$$F^R", "D H^R(10)", "D I^R", "S ^A(1)=1 R X", "TS (A,B) S ^A(2)=1,^B=2 TS  R X", "I 1 W !!,1 L A S $ET=1,A=1 R X", "S X=1_(2_(3_(4_(5_(6_(7_(8_(9_(1_(2_$$F^R))))))))))", "N A,B,C,D,E,F,G,H,I,J X `N A,B,C,D,E,F,G,H,I,J X ``N A,B,C,D,E,F,G,H,I,J R X```"};
        for (String text : texts) {
            House h = new House();
            h.save("R", r);
            for (int i = 0; i < 22; i++) {
                due("process", h.process(m(text)), i);
                turns(h, 60);
                due(text + " waits, time " + i, h.house.state(i, 0), 3);
                h.house.halt(i);
            }
            due("behind " + text, done(h, "W $TL,$TR,$T,$X,$ST,$EC,$ET,$D(A),$D(X) S (" + twenty + ")=1_(2_(3_4)) W 5 W ^(1)"), "00030005{,M1,}");
            due("nothing of them", h.house.count(2) * 100 + h.house.count(5) * 10 + h.house.count(1), text.contains("^A(1)") ? 1 : 0);
        }
        says("till the level is over: another process's turn in between");
        House h = house("S A=1,B=2 R X", "S A=3 R X");
        turns(h, 30);
        due("each has its own", h.look(0, "A", 0) + h.look(1, "A", 0) + h.look(0, "B", 0) + h.look(1, "B", 4) + h.look(0, "A", 1) + h.look(1, "A", 1) + h.look(0, "B", 2) + h.look(1, "B", 2), "1320BAA");
        says("A node is BARRED: only those that are told");
        h = house("L A R X", "R Y L B R X");
        h.save("R", "F() L +B:9 Q $T");
        turns(h, 20);
        h.tell(1, "");
        turns(h, 20);
        h.process("S A=$$F^R W A");
        turns(h, 20);
        due("it waits for B", h.house.state(2, 0), 1);
        h.house.halt(1);
        turns(h, 20);
        due("A is no LOCK of it", h.written(2), "1");
    }

    private static void levels() {
        says("TSTART: $TLEVEL is 1 more; TCOMMIT: $TLEVEL 1 less");
        runs("W $TL TS  W $TL TS  W $TL TC  W $TL TC  W $TL", "01210", "TS  TS  TS  TRO  W $TL", "0", "TS:0  W $TL", "0", "TS  H", "", "TS *,() W $TL", "2");
        says("Each without a transaction: Z5");
        runs("TC", "{,Z5,}", "TRE", "{,Z5,}", "TRO", "{,Z5,}", "TS  TC  TC", "{,Z5,}", "TS  TRO  TRO", "{,Z5,}", "TS  TC  TRE", "{,Z5,}", "TC:0  W 1", "1");
        says("from 0 on it BEGINS: it can be RESTARTED if TSTART had * ( ) or names");
        runs("TS  TRE", "{,Z6,}", "TS * W $TR TRE:$TR<1", "01", "TS () W $TR TRE:$TR<1", "01", "TS (A) W $TR TRE:$TR<1", "01", "TS  TS * TRE", "{,Z6,}", "TS * TS  W $TL,$TR TRE:$TR<1", "2021");
    }

    private static void copies() {
        says("In one each global is COPIED when its name is first met (its values, as they are then), and all is done on the copy, which only this process sees");
        House h = house("S ^A=1 TS  R X W ^A,$G(^B) S ^A=5,^C=6 K ^B R Y W ^A,$D(^B),^C,^D");
        turns(h, 20);
        h.process("S ^A=2,^B=3,^D=1");
        turns(h, 20);
        h.tell(0, "");
        turns(h, 20);
        due("as they are then", h.written(0), "23");
        h.process("W ^A,^B,$D(^C) S ^A=7,^D=8");
        turns(h, 20);
        due("another sees the house's", h.written(2), "230");
        due("so does look", h.look(0, "^A", 0) + h.look(0, "^C", 4), "70");
        h.tell(0, "");
        turns(h, 20);
        due("on its copy", h.written(0), "23" + "506" + "8");
        says("count against room again");
        h = house("F I=1:1:3 S ^A(I)=I I I=3 S ^B=1 TS  S X=$D(^A),X=$D(^Z) R X");
        turns(h, 30);
        due("values", h.house.count(1), 7);
        h.house.halt(0);
        due("values", h.house.count(1), 4);
        says("20 names at most, else Z1");
        runs("TS  F I=1:1:20 S X=$D(@(`^A`_I)) I I=20 W 1,$D(^A7) S X=$D(^B)", "10{,Z1,}", "F I=1:1:25 S X=$D(@(`^A`_I)) I I=25 W 1", "1", "TS  F I=1:1:20 S @(`^A`_I)=1 I I=20 TC  TS  S X=$D(^B) W 1", "1");
        says("($ORDER of a name without subscripts tells those of the copies, and of others in the house; it meets none.");
        runs("S ^A=1,^B=1,^C=1 TS  K ^B S ^BB=1 W $O(^A),$O(^BB),$O(^C,-1),$O(^BB,-1)", "^BB^C^BB^A", "S ^A=1 TS  S ^B=1 W $O(^A) TRO  W $O(^A)", "^B", "F I=1:1:401 S ^A(I)=1 I I=401 TS  W $O(^%),$O(^B,-1) S ^B=1 W 2 S X=$D(^A)", "^A^A2{,Z1,}");
        says("By kinds of NAMES alone: what is met by $ORDER, $QUERY, $DATA, MERGE, KILL and so on is met.)");
        for (String meets : new String[] {"S X=$O(^A(1))", "S X=$Q(^A)", "S X=$D(^A)", "M B=^A(5)", "K ^A(5)", "S X=$G(^A(1))", "S X=$NA(^A)", "M ^A=B", "S X=$O(^A(``),-1)"}) {
            h = house("S ^A(1)=1 TS  " + meets + " R X W ^A(1)");
            turns(h, 20);
            h.process("S ^A(1)=2");
            turns(h, 20);
            h.tell(0, "");
            turns(h, 20);
            due(meets, h.written(0), "1");
        }
        for (String meets : new String[] {"S X=$O(^A)", "L ^A(1)", "S X=$O(^B,-1)"}) {
            h = house("S ^A(1)=1 TS  " + meets + " R X W ^A(1)");
            turns(h, 20);
            h.process("S ^A(1)=2");
            turns(h, 20);
            h.tell(0, "");
            turns(h, 20);
            due(meets, h.written(0), "2");
        }
    }

    private static void records() {
        says("(What is set and killed has 8000 bytes of RECORDS at most, else Z1.)");
        // each of the 31 has 1, NODE of 3, the length and 250 bytes: 7905
        String thirty = "TS  F I=1:1:31 S ^A=$J(I,250) I I=31 ";
        runs(thirty + "S ^A=$J(1,90) W 1", "1", thirty + "S ^A=$J(1,91)", "{,Z1,}", thirty + "S ^A=$J(1,86) K ^A W 1", "1", thirty + "S ^A=$J(1,87) K ^A", "{,Z1,}", thirty + "S ^A=$J(1,90) K ^B,^A(1) M ^B=^C W 1", "1", thirty + "S ^A=$J(1,90) S ^A=``", "{,Z1,}",
            thirty + "S ^A=$J(1,85) S ^A=`` W 1", "1", thirty + "S ^A=$J(1,86) S ^A=``", "{,Z1,}", thirty + "S B=$J(1,90) M ^A=B W 1", "1", thirty + "S B=$J(1,91) M ^A=B", "{,Z1,}", thirty + "S ^A(1)=$J(1,88) W 1", "1", thirty + "S ^A(1)=$J(1,89)", "{,Z1,}");
        run("F F I=1:1:31 S ^A=$J(I,250)\n Q", "TS  D ^R S ^A=$J(1,90) TC  TS  S ^A=5 TC  W ^A", "5");
    }

    private static void ends() {
        says("TROLLBACK: copies go, $TLEVEL 0");
        runs("S ^A=1 TS  TS  S ^A=2,^B=3 TRO  W $TL,^A,$D(^B)", "010");
        says("what was set and killed in the copies is done in the house, in the order in which it was done, as one UNIT");
        House h = house("S ^A=1 TS  S ^A=2,^B=3 K ^A S ^A(1)=4 TC");
        turns(h, 20);
        due("units", h.house.count(12), 2);
        due("done", h.look(0, "^A", 4) + h.look(0, "^A(1)", 0) + h.look(0, "^B", 0), "1043");
        h = house("TS  W $D(^A) K ^A TC", "TS  TC");
        turns(h, 20);
        due("nothing is no unit", h.house.count(12), 0);
        due("ended by TCOMMIT", h.house.count(10), 2);
        says("One whose process is over is undone");
        for (String end : new String[] {"", " W 1/0", " H", " Q"}) {
            h = house("S ^A=1 TS  S ^A=2,^B=3 " + end);
            turns(h, 20);
            due("behind" + end, h.look(0, "^A", 0) + h.look(0, "^B", 4) + h.house.count(1) + h.house.count(12) + h.house.count(10) + h.house.state(0, 3), "101100");
        }
        h = house("TS * S ^A=2,X=1 R X");
        turns(h, 20);
        h.house.halt(0);
        due("halted", h.look(0, "^A", 4) + h.house.count(1) + h.house.count(2) + h.house.state(0, 3), "0000");
        says("$TRESTART becomes 0 when a transaction ends otherwise");
        runs("TS () TRE:$TR<2  W $TR TC  W $TR", "20", "TS () TRE:$TR<2  W $TR TRO  W $TR", "20", "TS () TRE:$TR<2  W $TR TC  TS  W $TR", "20", "S $ET=`S $EC=```` W $TR` X `TS () TRE:$TR<2  W $TR` TRE", "20");
        h = house("TS () TRE:$TR<2  R X");
        turns(h, 20);
        due("$TRESTART", h.house.state(0, 4), 2);
        h.house.halt(0);
        due("$TRESTART", h.house.state(0, 4), 0);
    }

    private static void restarts() {
        says("copies go, all levels above that of its TSTART are over, of that level the FORs that were not open then");
        run("A TS () W $TR,$D(^A) S ^A=1 D B W 9 TC  Q\nB D C\n Q\nC TRE:$TR<1  Q", "D ^R", "00109");
        run("A TS () W $TR F I=1:1:3 W I TRE:I=2&($TR<1)  I I=3 TC", "D ^R W $TL", "0121123" + "0");
        run("A F I=1:1:2 TS () W I,$TR TRE:$TR<1  TC", "D ^R", "10112021");
        run("A TS () W `a` F I=1:1:3 W I TRE:I=2&($TR<1)  Q:$TR\n W 5", "D ^R", "a12a15");
        run("A W 1\n TS ()\n W $TR TRE:$TR<1\n W 3", "D ^R", "1013");
        run("A TS () S X=1_$$F W $TR TC  Q\nF() TRE:$TR<70  Q 5", "D ^R", "70");
        run("A TS () S (X,Y,Z)=$$F W $TR TC  Q\nF() TRE:$TR<50  Q 5", "D ^R", "50");
        run("A TS () F I=1 F J=1 F K=1 TRE:$TR<50  W $TR", "D ^R", "50");
        run("A TS () D @`B` W $TR TC  Q\nB TRE:$TR<50  Q", "D ^R", "50");
        says("$TLEVEL is 0, $TRESTART 1 more; it goes on with its TSTART as a command that begins");
        runs("TS () TS  W $TL,$TR TRE:$TR<2", "202122", "W 1 TS:$TR<1 () W $TL TRE:$TL", "110", "TS () W 1 TRE:$TR<1  TC  W $TL,$TR", "1100");
        House h = house("TS () TRE");
        turns(h, 41);
        due("each a command", h.house.state(0, 9), 41);
        due("restarts", h.house.count(8), 20);
        says("If it can't be RESTARTED, or that level, or a FOR of it that was open then, is over: copies go, $TLEVEL is 0, error Z6");
        run("A S ^A=1 D B S $ET=`W $TL,$TR,^A S $EC=````` TRE\nB TS () S ^A=2 Q", "D ^R", "001");
        run("A S ^A=1,$ET=`W $TL,$TR,^A S $EC=````` F I=1:1:2 TS () S ^A=2 Q\n TRE", "D ^R", "001");
        run("A S ^A=1,$ET=`W $TL,$TR,^A S $EC=````` TS  S ^A=2 TRE", "D ^R", "001");
        run("A F I=1:1:2 TS:I=1 () W I TRE:I=2&($TR<1)", "D ^R", "122");
        run("A F I=1 F J=1,2 TS:J=1 () Q:J=2  W I,J\n TRE", "D ^R", "11{,Z6,}");
        run("A F I=1,2 F J=1 TS:I=1 () W I\n TRE", "D ^R", "12{,Z6,}");
        run("A TS () F I=1,2 W I\n TRE:$TR<1  W 3", "D ^R", "12123");
        run("A TS () G B\n W 9\nB W $TR TRE:$TR<1  Q", "D ^R", "01");
        run("A TS () D  W 3 TC  Q\n .W 1 G B\nB .W 2 TRE:$TR<1", "D ^R", "12123");
        says("(Writing, locks, other locals stay as they are; $TEST as it is behind those levels.)");
        run("A S X=0 TS () W `a` L +L S X=X+1 I X=1 TRE\n W X R Y", "D ^R", "aa2");
        run("A I 1 TS () W $T S Z=$$B I $TR=1\n Q\nB() I 0\n TRE:$TR<1  Q 1", "D ^R", "11");
        run("A I 1 TS () W $T D B\n Q\nB I 0\n TRE:$TR<1", "D ^R", "10");
        h = house("TS () L +A W 1 TRE:$TR<2  R X");
        turns(h, 20);
        due("locks", locks(h) + h.written(0), "0A3 111");
    }

    private static void kept() {
        says("of the names (* all that have DATA) the values are kept");
        runs("S A=1,A(1)=2,B=3 TS (A) W A,A(1),B,` ` S A=5,A(1)=6,A(2)=7,B=8 TRE:$TR<1  W $D(A(2))", "123 128 1", "S A=1,B=2 TS * W A,B,$D(C),` ` S A=5 K B S C=7 TRE:$TR<1", "120 121 ", "S A=1 TS () W A S A=2 TRE:$TR<1", "12", "TS (A) W $D(A) S A=1 TRE:$TR<1", "00", "S A=1 TS (A) W $D(A) K A TRE:$TR<1", "11",
            "S A=1 TS (B) W A S A=2 TRE:$TR<1", "12", "S A=1 TS (A,A) W A S A=2 TRE:$TR<1", "11");
        runs("S A=1,A(1)=2,X=$QS(`B(5)`,1) TS (A) W A,A(1) S A=5 K A(1) S A(7)=1,X=$QS(`B(5)`,1) TRE:$TR<1  W $D(A(7))", "12121", "S A=1,X=$D(B(3)) TS (A) W A,$D(A(3)) S A(3)=5,X=$D(B(3)) TRE:$TR<1  W $O(A(``))", "10103");
        House many = house("S A=1 TS (A) W:$TR#1000=0 A S A=2 TRE");
        turns(many, 20300);
        due("however often", many.house.state(0, 0) + many.code(0) + many.written(0) + many.house.count(8) / 1000, "01111115");
        many = house("S A=1 TS (A) TC  R X");
        turns(many, 20);
        many.process("S B=2,C=3 R X");
        turns(many, 20);
        many.house.halt(0);
        due("another's are its own", many.look(1, "B", 0) + many.look(1, "C", 0) + many.house.count(2), "232");
        many = house("S A=1 TS (A,A) R X");
        turns(many, 20);
        due("a name told twice", many.house.count(2), 2);
        says("kept names' locals have just the values that were kept (as they are NEW or not then)");
        runs("S A=1 TS (A) W $G(A,0) N A S A=2 TRE:$TR<1  W A", "112", "S A=1 X `TS (A) W $G(A,0) N A S A=2 TRE:$TR<1  W A` W A", "1121", "S A=1 TS (A) W A X `N A S A=2 TRE:$TR<1` W A", "111");
        says("those that TSTART keeps");
        House h = house("S A=1,A(1)=1,B=1 TS (A,Z) R X TC  R X", "S A=1,B=2 TS * R X TRO  R X");
        turns(h, 30);
        due("values", h.house.count(2), 5 + 4);
        h.tell(0, "");
        h.tell(1, "");
        turns(h, 30);
        due("values, X too", h.house.count(2), 4 + 3);
        due("seen", h.house.state(0, 11) * 10 + h.house.state(1, 11), 43);
    }

    /** How many CONFLICTS the first process has whose texts are done before and behind the other's. */
    private static void conflict(String before, String other, String behind, int want) {
        House h = house("S ^A(1)=1,^A=1,^B=1,^B(1)=1 " + before + " R X " + behind);
        turns(h, 40);
        h.process(m(other));
        turns(h, 40);
        h.tell(0, "");
        turns(h, 40);
        due(before + " | " + other + " | " + behind, h.house.count(9), want);
    }

    private static void conflicts() {
        says("if of a copied global another process has changed something since it was copied, it is a CONFLICT");
        for (String other : new String[] {"S ^A=1", "S ^A(7)=1", "K ^A", "K ^A(1)", "M ^A(2)=^B", "M ^A=^B(1)", "S $P(^A,1,2)=1", "TS  S ^A=1 TC", "TS  K ^A(1) TC", "S ^A=2,^A=1"}) conflict("TS  S X=^A", other, "TC", 1);
        for (String other : new String[] {"S ^B=1", "K ^A(7)", "M ^A=^Z", "TS  S ^A=1 TRO", "TS  S X=^A TC", "TS  K ^A(7) TC", "TS  S ^A=1", "S X=$O(^A(``))", "S $P(^A,``)=1", "S $P(^A,1,2,1)=1", "L ^A", "TS  S ^A=1 W 1/0"}) conflict("TS  S X=^A", other, "TC", 0);
        conflict("TS  S X=$O(^A)", "S ^A=1", "TC", 0);
        conflict("TS  S X=$O(^A)", "S ^A=1", "S X=^A TC", 0);
        conflict("TS  S X=^A", "S ^A=1", "TRO", 0);
        conflict("TS  S X=^A TS ", "S ^A=1", "TC  W 1 TC", 1);
        conflict("S ^A=1 TS ", "S ^A=5", "S ^A=^A+1 TC", 0);
        conflict("TS  S ^B=1", "S ^A=5", "TC", 0);
        conflict("TS  S ^B=1,X=$D(^A)", "S ^A=5", "TC", 1);
        conflict("TS  S X=^A", "TS  S X=^A,^B=1 TC", "TC", 0);
        conflict("TS  S X=^B", "TS  S X=^A,^B=1 TC", "TC", 1);
        conflict("TS  S X=^A", "TS  S X=^A TC  TS  K ^A(7) TC", "TC", 0);
        says("a CONFLICT of one that can be RESTARTED");
        House h = house("TS () W $G(^A,0),$TR S ^A=$G(^A)+1 R X TC  W ` `,^A");
        turns(h, 20);
        h.process("S ^A=5");
        turns(h, 20);
        h.tell(0, "");
        turns(h, 20);
        due("again", h.written(0) + h.house.count(8) + h.house.count(9) + h.house.count(10), "0051110");
        h.tell(0, "");
        turns(h, 20);
        due("ended", h.written(0) + h.house.count(8) + h.house.count(9) + h.house.count(10), "0051 6111");
        says("error Z6 (a CONFLICT, too)");
        h = house("S $ET=`W $TL,$TR,^A S $EC=````` TS  S ^A=1 R X TC");
        turns(h, 20);
        h.process("S ^A=5");
        turns(h, 20);
        h.tell(0, "");
        turns(h, 20);
        due("not again", h.written(0) + h.house.count(8) + h.house.count(9) + h.house.count(10), "005010");
    }
}

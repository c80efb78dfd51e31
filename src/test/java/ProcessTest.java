/** Part 8 and promises 5 to 15, 18: turns, waiting, locks, jobs, what is told of processes. */
public final class ProcessTest {
    public static void main(String[] args) {
        turns();
        longTurn();
        waiting();
        reading();
        locks();
        jobs();
        lives();
        levels();
        House.report();
    }

    private static void turns() {
        House h = new House();
        House.due("turns of nobody", h.house.turns(5), 0);
        House.due("turns counted", h.house.count(6), 0);
        for (int bad : new int[] {0, -1, 401, Integer.MIN_VALUE}) House.due("turns(" + bad + ")", h.house.turns(bad), -1);
        // whose turn it is follows the stream
        long x = 99;
        h.house.seed(x);
        for (int i = 0; i < 4; i++) h.process("F  W $J");
        int[] began = new int[4];
        for (int i = 0; i < 300; i++) {
            x = x * 6364136223846793005L + 1442695040888963407L;
            int p = (int) ((x >>> 33) % 4);
            began[p]++;
            House.due("a turn", h.house.turns(1), 1);
            House.due("began of " + p, h.house.state(p, 9), began[p]);
        }
        h.house.halt(1);
        for (int i = 0; i < 100; i++) {
            x = x * 6364136223846793005L + 1442695040888963407L;
            int p = new int[] {0, 2, 3}[(int) ((x >>> 33) % 3)];
            began[p]++;
            h.house.turns(1);
            House.due("began of " + p, h.house.state(p, 9), began[p]);
        }
        House.due("turns counted", h.house.count(6), 400);
        House.due("idle", h.house.count(7), 0);
        began("", 1, 0, 4);
        began("W 1 W 2 W 3", 3, 3, 4);
        began("W:0 1 W:0 2", 2, 2, 4);
        began("F I=1:1:3 W I", 7, 7, 4);
        began("F I=1:1:0 W I", 1, 1, 4);
        began("F I=1,2 F J=1,2 W 1", 1 + 2 * (1 + 1 + 2 * 2), 11 + 2, 4);
        began("X \"W 1 W 2\" W 3", 4, 4, 4);
        began("W 1/0 W 2", 1, 1, 5);
        began("S $ET=\"W 1\" W 1/0 W 2", 3, 3, 5);
        began("I 0 W 1", 1, 1, 4);
        began("W 1 ;W 2", 1, 1, 4);
        House g = new House();
        g.save("R", "F(N) W N Q N\nG\n ;\n W 1\n .W 2\n Q");
        int p = g.process("W $$F^R(1)+$$F^R(2) D G^R,G^R");
        House.due("turns", g.house.turns(400), 1 + 2 + 2 + 1 + 2 + 2);
        House.due("written", g.written(p), "12311");
    }

    /** Texts of @ in each other are worked to their end in one turn, however many words they have. */
    private static void longTurn() {
        House h = new House();
        int p = h.process("S $P(X,\"@B,\",70)=\"@B\" S A=X,B=$TR(X,\"B\",\"C\"),C=$TR(X,\"B\",\"D\"),D=1 W @A W 2");
        House.due("turns before it", h.house.turns(2), 2);
        House.due("written before it", h.house.state(p, 5), 0);
        House.due("a turn of many words", h.house.turns(1), 1);
        House.due("written by it", h.house.state(p, 5), 70 * 70 * 70);
        House.due("kept of it", h.house.state(p, 8), 2000);
        House.due("state behind it", h.house.state(p, 0), 0);
        House.due("turns behind it", h.house.turns(9), 1);
        House.due("written behind it", h.house.state(p, 5), 70 * 70 * 70 + 1);
        House.due("over", h.house.state(p, 0), 4);
    }

    private static void began(String text, int turns, int began, int state) {
        House h = new House();
        int p = h.process(text);
        House.due("turns of " + text, h.house.turns(400), turns);
        House.due("began of " + text, h.house.state(p, 9), began);
        House.due("state of " + text, h.house.state(p, 0), state);
    }

    private static void waiting() {
        House h = new House();
        int p = h.process("H 3 W $H H 2.9 W 2");
        House.due("turns", h.house.turns(10), 1);
        House.due("state", h.house.state(p, 0), 2);
        House.due("idle", h.house.count(7), 9);
        House.due("time", h.house.time(2), 2);
        House.due("turns", h.house.turns(1), 0);
        h.house.time(3);
        House.due("turns", h.house.turns(1), 1);
        House.due("state", h.house.state(p, 0), 0);
        House.due("turns", h.house.turns(2), 2);
        House.due("state", h.house.state(p, 0), 2);
        h.house.time(5);
        House.due("turns", h.house.turns(9), 2);
        House.due("written", h.written(p), "0,32");
        p = h.process("H 2000000000 W 1");
        h.house.turns(1);
        House.due("time", h.house.time(2000000001), -1);
        House.due("time", h.house.time(4), -1);
        House.due("time", h.house.time(5), 0);
        House.due("time", h.house.time(2000000000), 1999999995);
        House.due("turns", h.house.turns(9), 0);
        House.due("state", h.house.state(p, 0), 2);
        House.due("halt", h.house.halt(p), 1);
        House.due("code", new House().run("H \"1E40\""), "{,M92,}");
    }

    private static void reading() {
        House h = new House();
        int p = h.process("R A,!,\"x\",^B(1):5,C:0 W A,^B(1),C,$T R D W D");
        House.due("tell", h.tell(p, "one"), 1);
        House.due("turns", h.house.turns(5), 1);
        House.due("state", h.house.state(p, 0), 3);
        House.due("lines", h.house.state(p, 7), 0);
        House.due("written", h.written(p), "\nx");
        h.house.time(4);
        House.due("idle", h.house.turns(1), 0);
        h.house.time(5);
        House.due("turns", h.house.turns(3), 3);
        House.due("$TEST", h.house.state(p, 2), 0);
        House.due("written", h.written(p), "\nxone0");
        House.due("tell", h.tell(p, "two"), 1);
        House.due("tell", h.tell(p, "three"), 2);
        House.due("turns", h.house.turns(9), 2);
        House.due("written", h.written(p), "\nxone0two");
        House.due("state", h.house.state(p, 7), 0);
        House.due("tell", h.tell(p, "four"), -1);
        p = h.process("F I=1:1:3 R X:9 W X,$T,\" \"");
        for (int i = 1; i <= 20; i++) House.due("tell", h.tell(p, "" + i), i);
        House.due("tell", h.tell(p, "21"), -4);
        House.due("tell", h.tell(p, "x".repeat(251)), -2);
        House.due("tell", h.tell(9, "x".repeat(251)), -1);
        h.house.turns(20);
        House.due("written", h.written(p), "11 21 31 ");
        House h2 = new House();
        House.due("empty", h2.run("R A(\"\"):0"), "{,Z2,}");
        p = h2.process("R ^(1) W 1");
        House.due("turns", h2.house.turns(3), 1);
        h2.tell(p, "x");
        House.due("turns", h2.house.turns(3), 1);
        House.due("code", h2.code(p), ",M1,");
        p = h2.process("I 1 R X W $T,X I 0");
        h2.tell(p, "x".repeat(250));
        h2.house.turns(9);
        House.due("written", h2.written(p), "1" + "x".repeat(250));
        // also for no time at all it waits, till its next turn
        for (int n = -1; n <= 0; n++) {
            h2 = new House();
            p = h2.process("I 1 R X:" + n + " W $T,\"[\",X,\"]\"");
            House.due("turns", h2.house.turns(2), 2);
            House.due("waits", h2.house.state(p, 0), 3);
            House.due("turns", h2.house.turns(9), 2);
            House.due("written", h2.written(p), "0[]");
        }
        // twenty lines wait, and twenty more behind them
        h2 = new House();
        p = h2.process("F I=1:1:40 R X W X");
        StringBuilder lines = new StringBuilder();
        for (int i = 0; i < 40; i++) {
            House.due("tell", h2.tell(p, "a" + i), i % 20 + 1);
            lines.append('a').append(i);
            if (i % 20 == 19) h2.house.turns(200);
        }
        House.due("written", h2.written(p), lines.toString());
        // what a process had in hand when it was halted, the next one has not
        h2 = new House();
        h2.save("R", "F(N) Q:N=0 $$G^R Q 1_(2_$$F(N-1))\nG() R X Q X");
        for (int i = 0; i < 9; i++) {
            p = h2.process("W $$F^R(25)");
            h2.house.turns(99);
            House.due("waits", h2.house.state(p, 0), 3);
            House.due("halt", h2.house.halt(p), 28);
        }
        // a line read in an extrinsic
        h2.save("R", "F R X Q X");
        p = h2.process("W 1_$$F^R,2");
        House.due("turns", h2.house.turns(3), 2);
        House.due("levels", h2.house.state(p, 1), 2);
        h2.tell(p, "b");
        House.due("turns", h2.house.turns(9), 2);
        House.due("written", h2.written(p), "1b2");
    }

    private static void locks() {
        House h = new House();
        int a = h.process("L A(1),^B:1,+A(1),+(C,C,^C(2)) R X L -A(1),-A(1):5,-(C,Z) R X L  R X");
        h.house.turns(9);
        // LOCK of ^B let A(1) go
        locks(h, a + ":A(1)*1 " + a + ":C*2 " + a + ":^B*1 " + a + ":^C(2)*1 ");
        House.due("locks", h.house.count(5), 4);
        House.due("of it", h.house.state(a, 10), 4);
        House.due("$TEST", h.house.state(a, 2), 1);
        h.tell(a, "");
        h.house.turns(9);
        locks(h, a + ":C*1 " + a + ":^B*1 " + a + ":^C(2)*1 ");
        h.tell(a, "");
        h.house.turns(9);
        locks(h, "");
        h.house.halt(a);
        a = h.process("L +A,+B,+C,+D,+E L -B,-D R X");
        h.house.turns(9);
        locks(h, a + ":A*1 " + a + ":C*1 " + a + ":E*1 ");
        int[] others = new int[4];
        h.house.halt(a);
        a = h.process("L A(1) R X L  W 9");
        h.house.turns(9);
        others[0] = h.process("L +A W 1 L");
        others[1] = h.process("L +A(1,2):5 W $T L");
        others[2] = h.process("L +A(2),+^A,+^A(1),+A(10) W $T L");
        others[3] = h.process("L +A(1):0 W $T");
        h.house.turns(60);
        House.due("waits", h.house.state(others[0], 0), 1);
        House.due("waits", h.house.state(others[1], 0), 1);
        House.due("is over", h.house.state(others[2], 0), 4);
        House.due("written", h.written(others[3]), "0");
        h.house.time(4);
        House.due("turns", h.house.turns(20), 0);
        h.house.time(5);
        h.house.turns(20);
        House.due("written", h.written(others[1]), "0");
        House.due("waits", h.house.state(others[0], 0), 1);
        h.house.halt(a);
        h.house.turns(20);
        House.due("written", h.written(others[0]), "1");
        // one second is waited for, none is not
        h = new House();
        h.process("L A R X");
        h.house.turns(3);
        for (int n = -1; n <= 1; n++) {
            int p = h.process("I 1 L +A:" + n + " W $T");
            h.house.turns(20);
            House.due("state", h.house.state(p, 0), n > 0 ? 1 : 4);
            h.house.time(n + 1);
            h.house.turns(20);
            House.due("written", h.written(p), "0");
        }
        // a LOCK without + lets go before it waits, and what went stays so
        h = new House();
        a = h.process("L A R X");
        h.house.turns(3);
        int b = h.process("L B L A W 1");
        h.house.turns(9);
        locks(h, a + ":A*1 ");
        h.house.halt(b);
        b = h.process("L B L A:0 W $T R X");
        h.house.turns(9);
        locks(h, a + ":A*1 ");
        House.due("written", h.written(b), "0");
        // Z2 and M1 are before that
        int c = h.process("L B S $ET=\"R X\" L C($J(1,61))");
        h.house.turns(9);
        locks(h, a + ":A*1 " + c + ":B*1 ");
        c = h.process("L D S $ET=\"R X\" L (C,^(1))");
        h.house.turns(60);
        House.due("code", h.code(c), ",M1,");
        House.due("of it", h.house.state(c, 10), 1);
        // 60 nodes with their processes
        h = new House();
        a = h.process("F I=1:1:59 L +A(I)");
        for (int i = 0; i < 4; i++) h.house.turns(400);
        House.due("locks", h.house.count(5), 0);
        a = h.process("F I=1:1:59 L +A(I) I I=59 L +(A(1),B,B) S $ET=\"R X\" L +(A(2),C)");
        for (int i = 0; i < 4; i++) h.house.turns(400);
        House.due("locks", h.house.count(5), 60);
        House.due("code", h.code(a), ",Z1,");
        int first = h.house.lock(0, 2);
        House.due("first", h.result() + first, "A(1)4");
        House.due("times", h.house.lock(0, 1), 2);
        House.due("times", h.house.lock(1, 1), 1);
        House.due("times", h.house.lock(59, 1), 2);
        for (int what : new int[] {-1, 3}) House.due("lock", h.house.lock(0, what), -1);
        for (int i : new int[] {-1, 60, Integer.MAX_VALUE}) House.due("lock", h.house.lock(i, 0), -1);
        // LOCKs meet no global, and a NAKED one is made out when it is met
        House.due("naked", new House().run("S ^A(1)=1 L +^(2),+^B(1) S ^(3)=5 W ^A(3)"), "5");
        House.due("M92", new House().run("L A:\"1E40\""), "{,M92,}");
        House.due("indirect", new House().run("S A=\"+B:0,-C\" L @A W $T"), "1");
        // two wait for the same: who has the turn first has it
        h = new House();
        a = h.process("L (A,B) R X L -A R X");
        h.house.turns(3);
        b = h.process("L +(A,C) W 1 R X");
        c = h.process("L +C W 1 R X");
        h.house.turns(20);
        House.due("b waits", h.house.state(b, 0), 1);
        House.due("c has it", h.written(c), "1");
        h.tell(a, "");
        h.house.turns(20);
        House.due("b waits", h.house.state(b, 0), 1);
        h.house.halt(c);
        h.house.turns(20);
        locks(h, a + ":B*1 " + b + ":A*1 " + b + ":C*1 ");
    }

    private static void locks(House h, String want) {
        StringBuilder b = new StringBuilder();
        for (int i = 0; h.house.lock(i, 0) >= 0; i++) {
            b.append(h.house.lock(i, 0)).append(':');
            h.house.lock(i, 2);
            b.append(h.result()).append('*').append(h.house.lock(i, 1)).append(' ');
        }
        House.due("locks", b.toString(), want);
    }

    private static void jobs() {
        House h = new House();
        h.save("R", "F(A,B) W $J,A,$D(B),$T,$X,$ST,$EC,$ET,$TL\n W \"x\" Q\nG W $D(A) Q\nP W $G(Q) Q 1");
        int p = h.process("S A=5,Q=6 I 1 J F^R(A+1),G^R:0 W $J");
        House.due("a fault", p, -2);
        p = h.process("S A=5,Q=6 I 1 W \"ab\" J F^R(A+1),+4^R W $J");
        h.house.turns(30);
        House.due("written", h.written(p), "ab" + p);
        House.due("written", h.written(p + 1), (p + 1) + "600400x");
        House.due("written", h.written(p + 2), "");
        House.due("code", h.code(p + 2), ",M16,");
        House.due("processes", h.house.count(3), 3);
        House.due("code", new House().run("J ^R"), "{,M13,}");
        h.process("J G^R(1)");
        h.house.turns(5);
        House.due("code", h.code(3), ",M58,");
        h.process("J F^R(1,2,3)");
        h.house.turns(5);
        House.due("code", h.code(4), ",M58,");
        h.process("S X=\"1E40\" J F+X^R");
        h.house.turns(5);
        House.due("code", h.code(5), ",M92,");
        // 6 living
        h = new House();
        h.save("R", "F H 5");
        p = h.process("F I=1:1:5 J F^R");
        h.house.turns(100);
        House.due("processes", h.house.count(3), 6);
        House.due("living", h.house.count(4), 5);
        h.process("J F^R S X=5");
        h.house.turns(100);
        House.due("code", h.code(6), ",Z1,");
        // 24 in all
        h = new House();
        for (int i = 0; i < 24; i++) {
            House.due("process", h.process("W 1"), i);
            h.house.turns(3);
        }
        House.due("process", h.process("W 1"), -4);
        House.due("process", h.process("W"), -2);
        h = new House();
        for (int i = 0; i < 6; i++) h.process("H 1");
        House.due("process", h.process("W 1"), -4);
        House.due("bad first", h.process("A"), -2);
        House.due("halt", h.house.halt(2), 1);
        House.due("process", h.process("W 1"), 6);
    }

    private static void lives() {
        House h = new House();
        House.due("process", h.process(""), 0);
        House.due("process", h.process("W \"" + "x".repeat(246) + "\""), 1);
        House.due("process", h.process("W \"" + "x".repeat(247) + "\""), -2);
        for (String bad : new String[] {" W 1", "W", "W 1\n", "A W 1", ".", "W 1,"}) House.due(bad, h.process(bad), -2);
        for (int what = 0; what < 12; what++) House.due("state " + what, h.house.state(0, what), what == 1 ? 1 : 0);
        for (int what : new int[] {-1, 12}) House.due("state", h.house.state(0, what), -1);
        for (int p : new int[] {-1, 2, Integer.MAX_VALUE}) {
            House.due("state", h.house.state(p, 0), -1);
            House.due("halt", h.house.halt(p), -1);
            House.due("take", h.house.take(p), -1);
            House.due("code", h.house.code(p), -1);
            House.due("written", h.house.written(p, 0), -1);
            House.due("level", h.house.level(p, 0, 0), -1);
            House.due("tell", h.tell(p, "x"), -1);
        }
        h.house.turns(9);
        House.due("halt", h.house.halt(0), -3);
        House.due("written", h.house.written(1, 245), 'x');
        House.due("written", h.house.written(1, 246), -1);
        House.due("written", h.house.written(1, -1), -1);
        House.due("take", h.house.take(1), 246);
        House.due("take", h.house.take(1), 0);
        House.due("written", h.house.written(1, 0), -1);
        h = new House();
        h.save("R", "F(X) N Y S Y=1 S $ET=\"W 5\" TS  L +A S ^Z=1 W 1/0,3 Q");
        h.save("S", "F(X) I 1 N Y S Y=1,Y(1)=2 S $ET=\"W 5\" TS  TS  L +A,+B S ^Z=1 W !,\"ab\" R Q Q");
        int p = h.process("S V=1 D F^S(.V)");
        h.house.turns(40);
        int[] want = {3, 2, 1, 2, 0, 2, 1, 0, 3, 12, 2, 3};
        for (int i = 0; i < want.length; i++) House.due("state " + i, h.house.state(p, i), want[i]);
        House.due("values", h.house.count(2), 3);
        House.due("globals", h.house.count(1), 1);
        House.due("halt", h.house.halt(p), 2);
        int[] then = {4, 0, 1, 0, 0, 2, 1, 0, 3, 12, 0, 0};
        for (int i = 0; i < then.length; i++) House.due("state " + i, h.house.state(p, i), then[i]);
        House.due("values", h.house.count(2), 0);
        House.due("globals", h.house.count(1), 0);
        House.due("locks", h.house.count(5), 0);
        House.due("code", h.house.code(p), 0);
        // hidden locals are none of 11
        p = h.process("S A=1,A(1)=2,B=3 X \"N A S C=1 R X\"");
        h.house.turns(9);
        House.due("seen", h.house.state(p, 11), 2);
        House.due("all", h.house.count(2), 4);
        House.due("look", h.look(p, "A", 4), "0");
        House.due("look", h.look(p, "B", 0), "3");
        h.tell(p, "");
        h.house.turns(9);
        House.due("look", h.look(p, "B", 0), "-1");
        House.due("time", h.house.time(5), 5);
        House.due("time", h.house.time(4), -1);
        House.due("time", h.house.time(2000000001), -1);
        House.due("time", h.house.time(5), 0);
        House.due("second", h.house.count(14), 5);
        House.due("seed", h.house.seed(-1), 1);
    }

    private static void levels() {
        House h = new House();
        h.save("R", "F ;x\n D  Q\n .X \"R X\"\n .W 1\nG S $ET=\"R Y W 1/0\" W 1/0");
        int p = h.process("W 0 D F^R W 2");
        h.house.turns(9);
        String[] text = {"W 0 D F^R W 2", " D  Q", " .X \"R X\"", "R X"};
        int[] line = {1, 2, 3, 1};
        String[] routine = {"", "R", "R", ""};
        for (int k = 0; k < 4; k++) {
            House.due("level", h.house.level(p, k, 0), text[k].length());
            House.due("text", h.result(), text[k]);
            House.due("line", h.house.level(p, k, 1), line[k]);
            House.due("unchanged", h.result(), text[k]);
            House.due("level", h.house.level(p, k, 2), routine[k].length());
            House.due("routine", h.result(), routine[k]);
        }
        House.due("level", h.house.level(p, 4, 0), -1);
        House.due("level", h.house.level(p, -1, 0), -1);
        House.due("level", h.house.level(p, 0, 3), -1);
        House.due("level", h.house.level(p, 0, -1), -1);
        h.tell(p, "");
        h.house.turns(1);
        House.due("levels", h.house.state(p, 1), 3);
        h.house.level(p, 2, 0);
        House.due("text", h.result(), " .W 1");
        h.house.turns(9);
        House.due("level", h.house.level(p, 0, 0), -1);
        p = h.process("D G^R");
        h.house.turns(9);
        House.due("trap", h.house.level(p, 1, 0), 9);
        House.due("trap", h.result(), "R Y W 1/0");
        House.due("line", h.house.level(p, 1, 1), 1);
    }
}

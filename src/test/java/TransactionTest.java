/** Part 9: transactions, their copies, conflicts and restarts. */
public final class TransactionTest {
    public static void main(String[] args) {
        alone();
        restarts();
        kept();
        conflicts();
        limits();
        units();
        House.report();
    }

    private static void run(String text, String want) {
        House.due(text, House.of("", text), want);
    }

    private static void run(String routine, String text, String want) {
        House.due(routine.replace("\n", "|") + " || " + text, House.of(routine, text), want);
    }

    private static void alone() {
        run("W $TL TS  W $TL TS  W $TL TC  W $TL TC  W $TL", "01210");
        run("TS  S ^A=1,^A(1)=2 W ^A,$D(^A(1)) TRO  W $D(^A),$TL", "1100");
        run("S ^A=1,^B=5 TS  K ^A S ^A(2)=3 W $D(^A) TC  W $D(^A),^A(2),^B", "101035");
        run("TS  TS  TRO  TC", "{,Z5,}");
        run("TS  TC  TC", "{,Z5,}");
        run("TS  W 1 S ^A=1 W $O(^%),$O(^A),$O(^Z,-1) S ^C=1,^B(1)=1 W $O(^A),$O(^B),$O(^C,-1),$O(^C) K ^B W $O(^A)", "1^A^A^B^C^B^C");
        run("S ^A=1,^B=1,^C=1 TS  K ^B W $O(^A),$O(^C,-1),$O(^%) S ^BB=1 W $O(^A)", "^C^A^A^BB");
        run("S ^A(1)=1 TS  M ^B=^A W ^B(1) TC  W ^B(1),$Q(^B)", "11^B(1)");
        run("TS:0  W $TL TS:1 * W $TL TRO:0  W $TL TC:1  W $TL", "0110");
        House h = new House();
        int p = h.process("S ^A=1 TS  S ^A=2,^B=1 R X TC");
        h.house.turns(9);
        House.due("house", h.look(9, "^A", 0), "1");
        House.due("house", h.look(9, "^B", 4), "0");
        House.due("house", h.look(9, "^A", 1), "");
        House.due("values", h.house.count(1), 3);
        House.due("units", h.house.count(12), 1);
        int q = h.process("W ^A,$D(^B)");
        h.house.turns(9);
        House.due("others", h.written(q), "10");
        h.tell(p, "");
        h.house.turns(9);
        House.due("house", h.look(9, "^A", 0), "2");
        House.due("values", h.house.count(1), 2);
        House.due("units", h.house.count(12), 2);
        House.due("commits", h.house.count(10), 1);
        p = h.process("TS  S ^A=9 W 1/0");
        h.house.turns(9);
        House.due("undone", h.look(9, "^A", 0), "2");
        House.due("values", h.house.count(1), 2);
        House.due("commits", h.house.count(10), 1);
        p = h.process("TS  W ^A TC  TS  TC");
        h.house.turns(9);
        House.due("commits", h.house.count(10), 3);
        House.due("units", h.house.count(12), 2);
    }

    private static void restarts() {
        run("S X=0 TS () S X=X+1 W X,$TR,$TL TRE:X<3  TC  W $TR,$TL", "10121132100");
        run("TS  W 1 TRE", "1{,Z6,}");
        run("TS  TS () TRE", "{,Z6,}");
        run("TS * TS  W 1 TRE:$TR<1  W $TL TRO  W $TR", "1120");
        run("S $ET=\"W $EC,$TL,$TR S $EC=\"\"\"\"\" TS  S ^A=1 TRE", ",Z6,00");
        run("S X=0 TS ():1", "refused -2");
        run("F I=1:1:3 TS () W I,$TR,\" \" TRE:$TR<1&(I=2)  TC", "10 20 21 30 ");
        run("S Z=0 TS () F I=1:1:3 W I I I=2,Z<1 S Z=1 TRE  ", "12123");
        run("TS () W 1 F I=1:1:3 I I=2 TRE:$TR<1  W I", "112");
        run("A TS () D B W 9 TC  Q\nB W $TR TRE:$TR<2  Q", "D ^R W $TR", "01290");
        run("A TS () S X=$$B+1 W X TC  Q\nB() N Z S Z=1 TRE:$TR<2  Q $TR", "D ^R W $D(Z)", "30");
        run("A D B W 9 TRE\nB TS () Q", "D ^R", "9{,Z6,}");
        run("A TS () G B\nB W 1 TRE:$TR<1  W 2 TC  Q", "D ^R", "112");
        run("A F I=1:1:2 TS () G B\nB W 1 TRE:$TR<1  W 2 TC  Q", "D ^R", "1{,Z6,}");
        run("A F I=1:1:2 TS:I=1 () W I TRE:I=2&($TR<1)  TC:I=2", "D ^R", "122{,Z5,}");
        run("A F I=1:1:2 TS:I=1 () Q\n W 3 TRE", "D ^R", "3{,Z6,}");
        run("A S $ET=\"W 5 TRE:$TR<1  S $EC=\"\"\"\"\" TS () W 1,1/0", "D ^R W 7", "151{,M9,M9,}");
        run("A S $ET=\"W 5 TRE:$TR<1  S $EC=\"\"\"\"\" F I=1 TS () W 1,1/0", "D ^R W 7", "15{,M9,Z6,}");
        run("S $ET=\"TS () W 1 TRE:$TR<1  S $EC=\"\"\"\"\" W 1/0", "11");
        run("X \"TS () W 1 G ^R\"", "1{,M13,}");
        run("A W 2 TRE:$TR<1  TC  Q", "X \"TS () W 1 G ^R\" W 3", "12123");
        run("A I 1 D  W $T TRO  Q\n .TS () I 0\nB ;", "D ^R", "1");
        run("A I 1 TS () D B W $T TC  Q\nB I $TR=0 W 1 S X=$$C\n W 2 Q\nC() I 0\n TRE:$TR<1  Q 5", "D ^R", "120");
        run("A S L=\"B\" TS () D @L TC  Q\nB W 1 TRE:$TR<1  Q", "D ^R", "11");
        House h = new House();
        int p = h.process("TS () S ^A(1)=$G(^A(1))+1 W ^A(1) TRE:$TR<2  TC");
        h.house.turns(40);
        House.due("done once", h.written(p), "111");
        House.due("restarts", h.house.count(8), 2);
        House.due("conflicts", h.house.count(9), 0);
        House.due("commits", h.house.count(10), 1);
        House.due("units", h.house.count(12), 1);
        h.process("TS  TRE");
        h.house.turns(9);
        House.due("restarts", h.house.count(8), 2);
        // $TRESTART becomes 0
        run("TS () TRE:$TR<2  W $TR TRO  W $TR", "20");
        run("TS () TRE:$TR<2  W $TR TC  W $TR", "20");
    }

    private static void kept() {
        // a transaction whose level is over ends with Z6; another one is as ever
        run("S $ET=\"W $TR\" X \"TS () W $TR TRE:$TR<1\" TRE", "010{,Z6,}");
        run("S $ET=\"S $EC=\"\"\"\" TS () W $TR TRE:$TR<1  TC\" X \"TS ()\" TRE", "01");
        run("A S $ET=\"S $EC=\"\"\"\" TS () W $TR TRE:$TR<1  TC\"\n F I=1:1:2 TS () Q\n TRE", "D A^R", "01");
        run("S A=1,B=1 TS (A) W A,B,\" \" S A=A+1,B=B+1 TRE:$TR<2  W A TC", "11 12 13 2");
        run("S A=1,A(1)=2 TS (A) K A S A(2)=5 TRE:$TR<1  W $D(A),$D(A(1))", "100");
        run("S A=1,A(1)=2 TS (A) W A,$D(A(1)),$D(A(2)) K A S A(2)=5 TRE:$TR<1", "110110");
        run("TS (A) W $D(A) S A=1 TRE:$TR<1", "00");
        run("S A=1 TS * W A,$D(B) S A=2,B=3 TRE:$TR<1", "1011");
        run("S A=1,B=2 TS (A,B) W A,B K A,B TRE:$TR<1", "1212");
        run("S A=1,B=2 TS (A,B) W A,B S A=3,B=4 K A S B(1)=5 TRE:$TR<1  W $D(A),$D(B)", "1212011");
        run("S A=1,B=2 TS (A) TC  S A=3 TS (B) W A,B S A=4,B=5 TRE:$TR<1", "3242");
        run("S A=1 TS () W A S A=2 TRE:$TR<1", "12");
        run("S A=1 TS (A,A,B) W A S A=2 TRE:$TR<1", "11");
        run("S A=1 TS (A) W $G(A,\"n\") N A S A=5 TRE:$TR<1  W A", "115");
        run("F(X) TS (X) W X,V S X=X+1 TRE:$TR<1  TC  Q", "S V=1 D F^R(.V) W V", "11112");
        run("F(X) TS (X,V) W X,V S X=X+1 TRE:$TR<1  TC  Q", "S V=1 D F^R(.V) W V", "11112");
        run("F(X) TS (X) W $D(X) S X=1 TRE:$TR<1  TC  Q", "D F^R(.V) W V", "001");
        House h = new House();
        int p = h.process("S A=1,A(1)=2,B=3 TS (A,C) R X TRE:$TR<1  TRO  R X");
        h.house.turns(9);
        House.due("kept", h.house.count(2), 5);
        House.due("seen", h.house.state(p, 11), 3);
        h.tell(p, "");
        h.house.turns(9);
        House.due("kept", h.house.count(2), 6);
        h.tell(p, "");
        h.house.turns(9);
        House.due("kept", h.house.count(2), 4);
        run("F I=1:1:250 S A(I)=1 I I=250 TS *", "{,Z1,}");
        run("F I=1:1:249 S A(I)=1 I I=249 TS * W $TL S B=1", "1{,Z1,}");
        run("F I=1:1:249 S A(I)=1 I I=249 TS * W $TL,$TR K A S A(1)=1 TRE:$TR<1  W $D(A(249)),$D(A(250))", "101100");
    }

    private static void conflicts() {
        House h = new House();
        int p = h.process("TS () W $G(^A) R X TC  W \"c\"");
        h.house.turns(9);
        int q = h.process("S ^A=1 S ^B=1");
        h.house.turns(9);
        h.tell(p, "");
        h.house.turns(9);
        House.due("written", h.written(p), "1");
        House.due("conflicts", h.house.count(9), 1);
        House.due("restarts", h.house.count(8), 1);
        House.due("$TRESTART", h.house.state(p, 4), 1);
        q = h.process("S ^B(1)=1 K ^A(5) L ^A");
        h.house.turns(20);
        h.tell(p, "");
        h.house.turns(9);
        House.due("written", h.written(p), "1c");
        House.due("conflicts", h.house.count(9), 1);
        // each way to change
        for (String change : new String[] {"S ^A=1", "K ^A", "M ^A=^B", "K ^A(1)", "TS  S ^A(9)=1 TC", "M ^A(3)=^B(1)", "S $P(^A,1)=1"}) {
            conflict(change, true);
        }
        for (String none : new String[] {"S ^B=1", "K ^A(7)", "M ^A=^Z", "TS  S ^A(9)=1 TRO", "TS  W ^A(1) TC", "W ^A(1)", "TS  K ^A(7) TC", "TS  S ^A(9)=1", "S A=1"}) {
            conflict(none, false);
        }
        // one that can't be restarted
        h = new House();
        p = h.process("TS  S ^A=5,^B=6 R X TC  W \"c\"");
        h.house.turns(9);
        h.process("S ^A=1");
        h.house.turns(9);
        h.tell(p, "");
        h.house.turns(9);
        House.due("code", h.code(p), ",Z6,");
        House.due("conflicts", h.house.count(9), 1);
        House.due("restarts", h.house.count(8), 0);
        House.due("A", h.look(0, "^A", 0), "1");
        House.due("B", h.look(0, "^B", 4), "0");
        // a write by itself before the copy is none
        h = new House();
        p = h.process("S ^A=1 TS () S ^A=^A+1 TC  W ^A");
        h.house.turns(20);
        House.due("written", h.written(p), "2");
        // inner TCOMMIT looks for none
        h = new House();
        p = h.process("TS () TS  W $G(^A) R X TC  W \"i\" TC  W \"o\"");
        h.house.turns(9);
        h.process("S ^A=1");
        h.house.turns(9);
        h.tell(p, "");
        h.house.turns(3);
        House.due("written", h.written(p), "i");
        h.house.turns(9);
        House.due("written", h.written(p), "i1");
        // two meet at one global: the first to end wins
        h = new House();
        p = h.process("TS () S ^A=$G(^A)_1 R X TC");
        q = h.process("TS () S ^A=$G(^A)_2 R X TC");
        h.house.turns(20);
        h.tell(p, "");
        h.house.turns(20);
        h.tell(q, "");
        h.house.turns(20);
        House.due("conflicts", h.house.count(9), 1);
        h.tell(q, "");
        h.house.turns(20);
        House.due("both", h.look(0, "^A", 0), "12");
        House.due("commits", h.house.count(10), 2);
    }

    private static void conflict(String change, boolean is) {
        House h = new House();
        h.run("S ^A(1)=1,^A=1,^B=1,^B(1)=2");
        int p = h.process("TS () S X=^A R X TC");
        h.house.turns(9);
        h.process(change);
        h.house.turns(20);
        h.tell(p, "");
        h.house.turns(9);
        House.due("conflict with " + change, h.house.count(9), is ? 1 : 0);
    }

    private static void limits() {
        String sets = "F I=1:1:20 S @(\"^A\"_I)=1";
        run("TS  " + sets + " I I=20 W 1", "1");
        run("TS  " + sets + " I I=20 W 1,$D(^A7),$D(^B)", "11{,Z1,}");
        run("F I=1:1:400 S ^A(I)=1 I I=400 TS  W ^A(1) S ^A=1", "1{,Z1,}");
        run("F I=1:1:401 S ^A(I)=1 I I=401 TS  W ^A(1)", "{,Z1,}");
        run("F I=1:1:401 S ^A(I)=1 I I=401 TS  W $O(^B),$O(^A) S ^B=1 W ^B", "1");
        // 8000 bytes of records: each of 1, NODE of 5 and 1, 250 bytes
        run("TS  F I=1:1:31 S ^A(1)=$J(I,250) I I=31 W 1 S ^A(1)=$J(1,36) W 2", "1{,Z1,}");
        House h = new House();
        int p = h.process("TS  F I=1:1:31 S ^A=$J(I,250) I I=31 S ^A=$J(I,90) W 1 K ^B S X=$D(^B),^C=1");
        for (int i = 0; i < 3; i++) h.house.turns(100);
        House.due("written", h.written(p), "1");
        House.due("code", h.code(p), ",Z1,");
    }

    private static void units() {
        // what a transaction that was undone did is not in the next one's unit
        House h = new House();
        h.run("TS  S ^A=1 TRO  TS  S ^B=2 TC");
        House.due("units", h.house.count(12), 1);
        House.due("bytes", h.house.count(13), 7);
        h.run("TS () S ^A=1 TRE:$TR<1  S ^C=3 TC");
        House.due("bytes", h.house.count(13), 7 + 13);
        h = new House();
        h.process("S ^A=1 TS  S ^A=2,^B(1)=3 K ^A,^Z TC");
        h.house.turns(20);
        House.due("units", h.house.count(12), 2);
        // 1 0 1 A 1 1 0 and 1 0 1 A 1 2, 1 1 1 B 1 1 1 3, 2 0 1 A, 0
        House.due("bytes", h.house.count(13), 7 + 6 + 8 + 4 + 1);
        House.due("values", h.house.count(1), 1);
        h.house.sync();
        h.house.cut(0, 0);
        h.process("S ^C=1");
        h.house.turns(2);
        House.due("lost", h.house.sync(), -6);
        House.due("again", h.house.start(), 2);
        House.due("B", h.look(0, "^B(1)", 0), "3");
        House.due("values", h.house.count(1), 1);
        // no room on the disk: $TLEVEL is 1 again, nothing done
        h = new House();
        h.save("R", "F F I=1:1:300 S ^A=$J(I,250)\n Q");
        h.process("D ^R,^R");
        for (int i = 0; i < 6; i++) h.house.turns(400);
        House.due("code", h.code(0), ",Z1,");
        int left = 400 * 248 - h.house.count(13);
        House.due("room for no more of 256 bytes", left >= 0 && left < 256 ? 1 : left, 1);
        int p = h.process("S $ET=\"W $TL,$EC,$D(^B) S $EC=\"\"\"\" TC  TC\" TS  S ^B=$J(1,250) TC  W 5");
        h.house.turns(20);
        House.due("written", h.written(p), "1,Z1,1");
        House.due("code", h.code(p), ",Z1,");
        House.due("B", h.look(0, "^B", 4), "0");
        House.due("save", h.save("S", " ;" + "x".repeat(248)), -4);
        House.due("sync", h.house.sync(), 400);
        House.due("used", h.house.count(11), 400);
        House.due("no room", h.run("S ^B=1"), "{,Z1,}");
        House.due("no room", h.run("K ^A"), "{,Z1,}");
        House.due("no room", h.run("M ^B=^A"), "{,Z1,}");
        House.due("nothing to do", h.run("K ^B M ^B=^Z TS  S ^B=1 TRO  TS  W $L(^A) TC"), "250");
    }
}

/** Parts 5, 6 and 7: what commands do, errors and traps, levels. */
public final class CommandTest {
    public static void main(String[] args) {
        flow();
        loops();
        blocks();
        jumps();
        locals();
        merges();
        writes();
        calls();
        errors();
        traps();
        limits();
        House.report();
    }

    private static void run(String text, String want) {
        House.due(text, House.of("", text), want);
    }

    private static void run(String routine, String text, String want) {
        House.due(routine.replace("\n", "|") + " || " + text, House.of(routine, text), want);
    }

    private static void flow() {
        run("W:1 1 W:0 2 W:\"x\" 3 W:\"1x\" 4", "14");
        run("I 1 W 1 E  W 2", "1");
        run("I 0 W 1", "");
        run("X \"I 0 W 1\" E  W 2", "2");
        run("I 1,1,2 W $T", "1");
        run("X \"I 1,0,1/0 W 1\" W $T", "0");
        run("I 1 I 0 W 1", "");
        run("W 1 B  W 2 B:1  W 3 ;W 4", "123");
        run("W 1 Q  W 2", "1");
        run("W 1 Q:0  W 2 Q:1  W 3", "12");
        run("W 1 H  W 2", "1");
        run("X \"W 1 HALT\" W 2", "1");
        run("w 1 write 2 Write 3", "123");
        run("X \"W 1 Q  W 2\",\"W 3\":0,\"W 4\":1 W 5", "145");
        run("H 0 W 1 H -5,0 W 2", "12");
        run("X \"\" W 1 X \";note\" W 2", "12");
        for (String bad : new String[] {" W 1", ".W 1", "A W 1", "W 1\"_$C(10)_\"", "W", "W \"\"x\"_$C(10)_\"y\"\"", ";x\"_$C(10)_\"W 1"}) run("X \"" + bad + "\"", "{,Z3,}");
        House.due("a line ends", new House().process("W 1\n"), -2);
    }

    private static void loops() {
        run("F I=1:1:3 W I", "123");
        run("F I=1:1:3  W I", "123");
        run("F I=3:-1:1 W I", "321");
        run("F I=1:1:0 W I", "");
        run("X \"F I=5:1:0 W I\" W I", "5");
        run("X \"F I=\"\"05x\"\":1:4 W I\" W I", "5");
        run("F I=\"05x\",2 W I,\" \"", "05x 2 ");
        run("F I=1,2:2:6,\"a\",9:-4:0 W I,\" \"", "1 2 4 6 a 9 5 1 ");
        run("X \"F I=1:1:3 Q\" W I", "1");
        run("X \"F I=1:1:3 S X=I\" W I", "3");
        run("X \"F I=1:2:4 S X=I\" W I", "3");
        run("F I=1:1 Q:I>4  W I", "1234");
        run("F I=1:0:1 S J=$G(J)+1 Q:J>3  W J", "123");
        run("F I=1:0:0 W 1", "");
        run("F I=1:-.5:-.5 W I,\" \"", "1 .5 0 -.5 ");
        run("F  S I=$G(I)+1 Q:I>3  W I", "123");
        run("F I=1:1:3 F J=1:1:3 Q:J>I  W I,J,\" \"", "11 21 22 31 32 33 ");
        run("F I=1:1:2 F J=1,2 W I,J,\" \"", "11 12 21 22 ");
        run("F I=1:1:5 S I=I+1 W I,\" \"", "2 4 6 ");
        run("F I=1:1:3 K I", "{,M15,}");
        run("F I=1 K I", "");
        run("F I=1,2 K I", "");
        run("F I=1:1:3 W I I I=2 W \"x\"", "12x3");
        run("F I=1:1:3 I I'=2 W I E  W \"e\"", "13");
        run("S Z=0 F I=1:1:3 I I=2 W I", "2");
        run("S N=3 F I=1:1:N S N=9 W I", "123");
        run("S A=2 F I=A:A:A*3 W I", "246");
        run("F I=1:1:\"1E40\" W I", "{,M92,}");
        run("F I=1,1/0 W I", "1{,M9,}");
        run("F I=1/0:1:2 W I", "{,M9,}");
        run("F I=9E29:9E28 W 1", "11{,M92,}");
        run("F I=1:1:2 X \"Q  W 1\" W I", "12");
        run("F I=1:1:3 W I G:I=2 A^R", "12{,M13,}");
        run("A W \"a\" Q", "F I=1:1:3 W I G:I=2 ^R", "12a");
        run("A(N) F I=1:1:9 Q:I>N I", "W $$A^R(3)", "4");
        House.due("QUIT with a value in a FOR", House.of("A(N) F I=1:1:9 S J=I I I>N Q J\n W \"x\" Q 0", "W $$A^R(3)"), "4");
        run("F  F  S I=$G(I)+1 Q:I>2", "");
    }

    private static void blocks() {
        run("A W 1 D  W 4\n .W 2\n .W 3\n W 5", "D ^R", "12345");
        run("A W 1 D  W 4\n ..W 2\n .W 3\n W 5", "D ^R", "1345");
        run("A W 1 D  W 4\n ..W 2\n W 5", "D ^R", "145");
        run("A W 1 D  W 4\n .W 2 D  W 3\n ..W 6\n .W 7\n W 5", "D ^R", "1263745");
        run("A W 1 D  W 4\n W 5\n .W 2", "D ^R", "145");
        run("A W 1 D  W 4\n .W 2 Q\n .W 3\n W 5", "D ^R", "1245");
        run("A F I=1:1:2 D  W \"|\"\n . W I\n . Q:I=1\n . W \"x\"\n W 5", "D ^R", "1|2x|5");
        run("A I 1 D  W $T\n .I 0 W 1\n .W 2", "D ^R", "21");
        run("A W 1 D  W 4 D  W 5\n .W 2", "D ^R", "12425");
        run("A W 1\nB .W 2 D  W 4\n ..W 3\n W 5", "D B^R", "2345");
        run("A W 1\nB .W 2\n .W 3\n W 5", "D B^R", "25");
        run("A D\n .W 1\n\n .W 2\n W 3", "D ^R", "13");
        run("A D:0  D:1  W 2\n .W 1", "D ^R", "12");
        run("D  W 1 X \"D  W 2\"", "12");
        run("A W $Q D  Q 5\n .W $Q", "W $$^R", "105");
        run("A D  Q 5\n .Q 6", "W $$^R", "{,M16,}");
        run("A D  Q\n .N X S X=1\n .W X\n W $D(X)", "D ^R", "1");
        run("A D  W $D(X) Q\n .N X S X=1\n .W X", "D ^R", "10");
        run(".W 1\n", "D ^R", "{,M13,}");
        run(" .W 1\n W 2", "D ^R", "12");
        run("A ;\n .W 1\n W 2", "D ^R D +2^R", "212");
    }

    private static void jumps() {
        run("A W 1 G B W 2\n W 3\nB W 4\n W 5", "D ^R W 6", "1456");
        run("A W 1 G B:0,C:1,D\n W 3\nB W 4\nC W 5 Q\nD W 6", "D ^R", "15");
        run("A W 1 G B+1\nB W 2\n W 3", "D ^R", "13");
        run("A W 1 G +3\nB W 2\n W 3", "D ^R", "13");
        run("A W 1 G A+-1", "D ^R", "1{,Z4,}");
        run("A W 1 G A+5", "D ^R", "1{,M13,}");
        run("A W 1 G B^R\n .W 2\nB W 3", "D ^R", "13");
        run("A W 1 G B^R\nB .W 3", "D ^R", "1{,M45,}");
        run("A D  W 9 Q\n .W 1 G B\n .W 2\nB .W 3\n .W 4\n W 5", "D ^R", "1349");
        run("A D  W 9 Q\n .W 1 G B\n ..W 2\nB .W 3", "D ^R", "139");
        run("A D  W 9 Q\n .W 1 G B\n W 5 Q\nB .W 3\n .W 4", "D ^R", "1{,M45,}");
        run("A D  W 9 Q\n .W 1 G B\nB W 3", "D ^R", "1{,M45,}");
        run("A D  W 9 Q\nB .W $G(X) S X=$G(X)+1 G B:X<3\n .W 4", "D ^R", "1249");
        run("A D  W 9 Q\nB .W 1 G ^S", "D ^R", "1{,M13,}");
        run("A W 1 Q\n .W 2", "G +1^R W 3", "1");
        run("A W 1\nB W 2 Q", "X \"G B^R W 3\" W 4", "24");
        run("A W 1\nB W 2\n .W 3\n W 5", "X \"G ^R W 3\" W 4", "1254");
        run("G A", "{,M13,}");
        run("D A", "{,M13,}");
        run("S X=$$A", "{,M13,}");
        run("J A", "{,M13,}");
        run("A S L=\"B\" G @L\nB W 1 S L=\"C:0,D:1,B\" G @L\nC W 2 Q\nD W 3", "D ^R", "13");
        run("A S L=\"B\" G @L:0 W 4 G @L:1\nC W 2 Q\nB W 3", "D ^R", "43");
        // a line of two points: GOTO goes to another of them
        run("A D\n .W 1 D\n ..W 2 G X\n ..W 3\nX ..W 4\n .W 5\n W 6", "D ^R", "12456");
    }

    private static void locals() {
        run("S (A,B(1),^C)=5,D=A+1 W A,B(1),^C,D", "5556");
        run("S I=1,A(I)=2,I=2,A(I)=3 W A(1),A(2)", "23");
        run("S I=1 S (I,A(I))=5 W I,A(1)", "55");
        run("S A=1,A(1)=2,A(1,1)=3,A(2)=4 K A(1) W $D(A(1)),$D(A(2)),A K A W $D(A),$D(A(2))", "01100");
        run("S A=1,B=2,C=3 K (A,C) W $D(A),$D(B),$D(C) K  W $D(A)", "1010");
        // names that are one are one local, which stays if one of them is told
        run("F(X,Y) K (Y) W $D(X),$D(Y),$D(A),$D(B) Q", "S A=1,B=2 D F^R(.A,.A) W A,$D(B)", "111010");
        run("S ^A=1,^A(1)=2,^B=3 K ^A W $D(^A),$D(^B) K ^(1)", "01{,M1,}");
        run("S A=1 X \"N A W $D(A) S A=2 N A W $D(A) S A=3\" W A", "001");
        run("X \"N A S A=2\" W $D(A)", "0");
        run("S A=1,B=2 X \"N  W $D(A),$D(B) S A=5,C=6\" W A,B,$D(C)", "00120");
        run("S A=1,B=2,C=3 X \"N (A,D) W A,$D(B),$D(C) S A=9,B=8,D=7,E=6\" W A,B,C,D,$D(E)", "10092370");
        run("S A=1 X \"N A S A=2 X \"\"N  S A=3\"\" W A\" W A", "21");
        run("S A=1 X \"N (A) N A S A=2 W A\" W A", "21");
        run("S A(1)=1 X \"N A S A(2)=2 W $D(A(1)),$D(A)\" W $D(A(1)),$D(A(2))", "01010");
        run("S A=1 N A W $D(A)", "0");
        run("A(X) S X=5 Q\nB(X,Y) S X=1,Y=2,X(3)=4 Q\nC(X) N X S X=7 Q", "D A^R(.V) W V D B^R(.V,.W) W V,W,V(3) D C^R(.V) W V", "51241");
        run("A(X,Y) S X=1 W Y S Y=2 W X Q", "D A^R(.V,.V) W V", "122");
        run("A(V) S V=3 Q", "S V=1 D A^R(.V) W V D A^R(V) W V", "33");
        run("A(X) D B(.X) W X Q\nB(Y) S Y=5 Q", "D A^R(.V) W V", "55");
        run("A(X) K X Q", "S V=1,V(2)=3 D A^R(.V) W $D(V)", "0");
        run("A(X) S V=8 W X Q", "D A^R(.V)", "8");
        run("A(X) N V S V=8 W $D(X) Q", "D A^R(.V) W $D(V)", "00");
        run("A(X) N  S V=1,X=2 Q", "S V=5 D A^R(.V) W V", "5");
        run("A(X,Y) W $D(X),$D(Y) Q", "S X=1,Y=2 D A^R(,3) W X,Y D A^R() D A^R", "01120011");
        run("A(B,A) W A,B Q", "S A=1,B=2 D A^R(A,B) D A^R(.A,.B) W A,B", "212112");
    }

    private static void merges() {
        run("S A=1,A(1)=2,A(1,2)=3 M B(9)=A W B(9),B(9,1),B(9,1,2),$D(B) M C=A(1) W C,C(2)", "1231023");
        run("S A(1)=1,B(2)=2 M B=A W B(1),B(2)", "12");
        run("M A=B W $D(A)", "0");
        run("S A(1)=1 M A=A", "{,M19,}");
        run("S A(1)=1 M A(1)=A", "{,M19,}");
        run("S A(1)=1 M A=A(1)", "{,M19,}");
        run("M ^A(1)=^A(1,2)", "{,M19,}");
        run("S A(1)=1,A(2)=2 M A(1)=A(2) W A(1)", "2");
        run("S A(1,5)=1 M A(2)=A(1) W A(2,5)", "1");
        run("S A=7 M ^A=A,^A(1)=A W ^A,^A(1)", "77");
        run("S ^A=7 M A=^A,A(1)=^A W A,A(1)", "77");
        run("M A=A", "{,M19,}");
        run("M A=B,B=A(1),^A=^B W $D(A),$D(B),$D(^A)", "000");
        run("S A(1,2,3)=1 M B(1,2,3)=A W B(1,2,3,1,2,3) M B(1,2,3,4)=A", "1{,Z2,}");
        run("A(X) M X(1)=V Q", "S V=1 D A^R(.V)", "{,M19,}");
        run("A(X) M X=V(1) Q", "S V(1)=1 D A^R(.V)", "{,M19,}");
    }

    private static void writes() {
        run("W 1,!,2,#,\"ab\",?5,3,*65,*300,*-1,!!,?2,4,!#?3,5", "1\n2\fab   3A\n\n  4\n\f   5");
        run("W $X,\"abc\",$X,?2,$X,!,$X,$Y,#,$X,$Y", "0abc45\n01\f00");
        run("W *0,*1,*254,*255,*256,*-1,*1.9,$X", "\0\1\u00fe\u00ff\1" + "5");
        run("W *10,*12,\"a\"_$C(10)_\"b\" W $X,$Y", "\n\fa\nb11");
        run("W ?1000000,$X,?-5,$X W ?3E9,$X", "012");
        House h = new House();
        int p = h.process("W ?999999 W $C(65) W ?5 S X=$X W \"B\"");
        h.house.turns(9);
        House.due("kept", h.house.state(p, 8), 2000);
        House.due("$X", h.house.state(p, 5), 6);
        House.due("X", h.house.take(p), 2000);
        House.due("kept", h.house.state(p, 8), 0);
        p = h.process("F I=1:1:2001 W \"a\"");
        for (int i = 0; i < 15; i++) h.house.turns(400);
        House.due("kept", h.house.state(p, 8), 2000);
        House.due("$X", h.house.state(p, 5), 2001);
    }

    private static void calls() {
        // no command takes from what is in hand below its level
        String all = "W ?1 R \"x\",Y:0 W *65,! S A=1,$P(B,2,3)=4,(C(1),D)=5,$E(E,2)=6 K A,C(1) M F=B L +A,-A:1,+(A,B(1)):1 H 0 I 1,2 X \"W 1\",\"Q\" D L^R,L^R() "
            + "N G,(N) F I=1:1:2,3 S J=1_2 F K=1:1 Q:K>1";
        House.due("in hand", House.of("F(N) Q:N=0 6 " + all + "\n Q 5_$$F(N-1)\nL() Q", "S (X,Y(1,2))=7_(8_(9_$$F^R(2))) W X,Y(1,2)"), " xA\n1xA\n1789556789556");
        run("F(A,B) Q A+B", "W $$F^R(1,2),$$F^R(\"3x\",-1)", "32");
        run("F Q 1", "W $$^R,$$F^R,$$F^R+1", "112");
        run("F() Q 1", "W $$F^R(),$$F^R", "11");
        run("F Q 1", "W $$F^R()", "{,M58,}");
        run("F(A) Q 1", "W $$F^R(1,2)", "{,M58,}");
        run("F(A) Q 1", "D F^R(,)", "{,M58,}");
        run(" Q 1", "W $$^R(1)", "{,M58,}");
        run("F W 1", "S X=$$F^R", "1{,M17,}");
        run("F Q", "S X=$$F^R", "{,M17,}");
        run("F Q 1", "D F^R", "{,M16,}");
        run("F Q 1/0", "D F^R", "{,M9,}");
        run("Q 1", "{,M16,}");
        run("F I 0\n Q 5", "I 1 W $$F^R,$T", "51");
        run("F I 0\n Q", "I 1 D F^R W $T", "0");
        run("F W $ST D G W $ST X \"W $ST\" W $$H Q\nG W $ST Q\nH() Q $ST", "W $ST D F^R", "012122");
        run("F W 1\nG W 2", "D F^R,G^R W 3", "1223");
        run("F W 1\nG W 2", "D F^R:0,G^R:1 W 3", "23");
        run("F(N) Q:N<2 1 Q N*$$F(N-1)", "W $$F^R(10)", "3628800");
        run("A W 1 Q\n12 W 2 Q\n%x W 3 Q", "D 12^R,%x^R,A+1^R", "232");
        run("F(A,B) W A,B Q", "S X=\"F^R(1,2),F^R(3,4):0,F^R(5,6)\" D @X", "1256");
        run("F W $Q D G Q 1\nG W $Q Q", "W $$F^R", "101");
    }

    private static void errors() {
        run("W 1/0", "{,M9,}");
        run("S $EC=\",U1,\" W 1", "{,U1,}");
        run("S $EC=\"\" W 1,$EC", "1");
        for (String bad : new String[] {"x", ",", ",,", "x,", ",x"}) run("S $EC=\"" + bad + "\"", "{,M101,}");
        run("S $EC=\",a,b,\"", "{,a,b,}");
        run("S ($EC,A)=\",a,\"", "{,a,}");
        run("S (A,$EC)=\",a,\"", "{,a,}");
        run("TC", "{,Z5,}");
        run("TRE", "{,Z5,}");
        run("TRO", "{,Z5,}");
        run("D ^A+1", "refused -2");
        run("D +-1^R", "{,Z4,}");
        run("D +0^R", "{,M13,}");
        run("D +\"1E40\"^R", "{,M92,}");
    }

    private static void traps() {
        run("S $ET=\"W $EC,$ST S $EC=\"\"\"\"\" W 1/0 W 5", ",M9,0");
        run("F S $ET=\"W $EC,$ST S $EC=\"\"\"\"\" W 1/0 W 5", "D ^R W 6", ",M9,16");
        run("F S $ET=\"W $EC,$ST\" W 1/0 W 5", "D ^R W 6", ",M9,1{,M9,}");
        run("F W 1/0", "S $ET=\"W $EC,$ST S $EC=\"\"\"\"\" D ^R W 6", ",M9,0");
        run("F S $ET=\"Q 7\" W 1/0\n", "W $$F^R", "{,M9,}");
        run("F S $ET=\"S $EC=\"\"\"\" Q 7\" W 1/0\n", "W \"[\",$$F^R,\"]\"", "[]");
        run("F S $ET=\"S $EC=\"\"\"\" W 3 Q\" W 1/0\n", "W \"[\",$$F^R,\"]\"", "[3]");
        run("F S $ET=\"S $EC=\"\"\"\" Q 7\" W 1/0\n", "D F^R W 8", "8");
        run("F S $ET=\"S $EC=\"\"\"\" Q 1/0\" W 1/0\n", "D F^R W 8", "{,M9,}");
        run("F S $ET=\"W \"\"t\"\",A\" W 1/0\n", "D F^R W 8", "t{,M9,M6,}");
        run("F S $ET=\"S $EC=\"\"\"\" X \"\"W 1/0\"\" W 4\" W B\n", "D F^R W 8", "{,Z1,}");
        run("F S $ET=\"S $EC=\"\"\"\" G G^R\" W 1/0\n W 1\nG W 2\n W 3 Q", "D F^R W 8", "238");
        run("F S $ET=\"S $EC=\"\"\"\" G G\" W 1/0\n W 1\nG W 2\n W 3 Q", "D F^R W 8", "{,M13,}");
        run("F S $ET=\"G G^R\" W 1/0\n W 1\nG W 2,$EC\n W 3 W A", "D F^R W 8", "2,M9,3{,M9,M6,}");
        run("F S $ET=\"S $EC=\"\"\"\" G G^R\" W 1/0\n W 1\nG W 2 Q 5", "W $$F^R,8", "28");
        run("F S $ET=\"S $EC=\"\"\"\" D  W 1 G G^R\" W 1/0\n .W 7\nG W 2 D  Q\n .W 3", "D F^R W 8", "1238");
        run("F S $ET=\"S $EC=\"\"\"\" W $ST\" D\n .W 1/0\n W 5", "D F^R W 8", "258");
        run("F S $ET=\"S $EC=\"\"\"\" W $ST G G^R\" D\n .W 1/0\n .W 4\n W 5 Q\nG W 6 Q", "D F^R W 8", "2658");
        run("F S $ET=\"S $EC=\"\"\"\" G G^R\" D\n .W 1/0\n .W 4\n W 5 Q\nG W 6\n .W 7\n W 3 Q", "D F^R W 8", "6758");
        run("F F I=1:1:3 S $ET=\"W I S $EC=\"\"\"\"\" W 1/0 W 5", "D ^R W 6", "16");
        run("F S $ET=\"F I=1:1:3 W I Q:I=2\" W 1/0", "D ^R W 6", "12{,M9,}");
        run("F S $ET=\"W 1 ELSE  W 2 S $EC=\"\"\"\"\" W 1/0", "D ^R W 6", "126");
        run("F S $ET=\"foo\" W 1/0", "D ^R W 6", "{,M9,Z3,}");
        run("F S $ET=\" W 1\" W 1/0", "D ^R W 6", "{,M9,Z3,}");
        run("F S $ET=\";\" W 1/0", "D ^R W 6", "{,M9,}");
        run("S $ET=\"W 2 S $EC=\"\"\"\"\" X \"W 1/0\" W 3", "23");
        run("S $ET=\"W 2 S $EC=\"\"\"\"\" X \"bad\" W 3", "23");
        run("S $ET=\"W $ET\" X \"S $ET=\"\"W 4\"\" W 1/0\"", "4W $ET{,M9,}");
        run("S $ET=\"H\" W 1/0", "{,M9,}");
        House h = new House();
        int p = h.process("S $ET=\"H\" W 1/0");
        h.house.turns(9);
        House.due("HALT in a trap", h.house.state(p, 0), 4);
        p = h.process("S $ET=\"W 1\" W 1/0");
        h.house.turns(9);
        House.due("over by an error", h.house.state(p, 0), 5);
        run("S $ET=\"S $EC=\"\"\"\"\",A=1_(2_$$X)", "");
    }

    private static void limits() {
        run("F(N) D:N<28 F(N+1) W:N=28 $ST Q", "D F^R(1) W \"x\"", "28x");
        run("F(N) D:N<29 F(N+1) W:N=29 $ST Q", "D F^R(1) W \"x\"", "29x");
        run("F(N) D:N<30 F(N+1) W:N=30 $ST Q", "D F^R(1) W \"x\"", "{,Z1,}");
        String loops = "F I=1 ".repeat(20);
        run("A " + loops + "D B\n Q\nB " + loops + "W 1", "D ^R", "1");
        run("A " + loops + "D B\n Q\nB F I=1 " + loops + "W 1", "D ^R", "{,Z1,}");
        run("F I=1:1:299 N A", "");
        run("F I=1:1:300 N A", "");
        run("F I=1:1:301 N A", "{,Z1,}");
        run("F I=1:1:297 N A I I=297 N (A) W 1", "1{,M15,}");
        run("F I=1:1:298 N A I I=298 S A=1,B=1 N (A) W 1", "{,Z1,}");
        run("F I=1:1:296 N A I I=296 S A=1,B=1 N (A) W 1", "1{,M15,}");
        run("F I=1:1:297 N A I I=297 S A=1,B=1 N (A) W 1", "{,Z1,}");
        run("F(A,B,C) W 1 Q", "F I=1:1:297 N X I I=297 D F^R(1,2,3)", "1");
        run("F(A,B,C) W 1 Q", "F I=1:1:298 N X I I=298 D F^R()", "{,Z1,}");
        run("F I=1:1:500 S A(I)=1 I I=499 W 1", "1{,Z1,}");
        run("F I=1:1:499 S A(I)=1 I I=499 S A(1)=2,X=1 W 1", "{,Z1,}");
        run("F I=1:1:498 S A(I)=1 I I=498 S A(1)=2,X=1 W 1", "1");
        run("F I=1:1:801 S ^A(I)=1 I I=800 W 1", "1{,Z1,}");
        run("F I=1:1:800 S ^A(I)=1 I I=800 S ^A(1)=2 K ^A(2) S ^B=1 W 1", "1");
        run("F I=1:1:799 S ^A(I)=1 I I=799 S A(1)=1,A(2)=2 M ^B=A", "{,Z1,}");
        run("F I=1:1:249 S A(I)=1 I I=249 M B=A W 1,$D(B(249)) M C=A(1) W 2 M D=C", "112{,Z1,}");
    }
}

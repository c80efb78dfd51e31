/** Parts 5, 6 and 7 at their edges: what commands do, errors, levels. */
public final class BoundaryCommandTest extends Boundary {
    public static void main(String[] args) {
        conditions();
        argumentTexts();
        blocks();
        jumps();
        branches();
        quits();
        loops();
        sets();
        kills();
        news();
        merges();
        writes();
        reads();
        hangs();
        texts();
        codes();
        traps();
        rooms();
        inHand();
        left();
        lists();
        entries();
        actuals();
        House.report();
    }

    private static void conditions() {
        says("A CONDITION that is not TRUE: nothing is done (of a command; of an argument)");
        runs("W:0 1/0 W 1", "1", "S:0 A=1/0 W $D(A)", "0", "D:0 ^Z W 1", "1", "Q:0  W 1", "1", "K:0  W 1", "1", "H:0  W 1", "1", "X 1/0:0,`W 1`:1", "1", "D ^Z:0,+(1/0)^Z:0 W 1", "1", "G ^Z:0 W 1", "1", "X @A:0,@B:0 W 1", "1", "D @A:`` W 1", "1", "W:1/0 1", "{,M9,}", "X 1:1/0", "{,M9,}",
            "TS:0  W $TL", "0", "N:0  S A=1 X `N:0 A W A`", "1", "B:0  W 1", "1", "J:0 ^Z W 1", "1", "L:0 A(``) W 1", "1", "R:0 A W 1", "1", "M:0 A=A W 1", "1", "TC:0  TRE:0  TRO:0  W 1", "1");
        says("Arguments are done from the left");
        runs("S A=1,A=A+1,B=A W B", "2", "W 1,2,1/0,3", "12{,M9,}", "X `W 1`,`W 2`", "12", "S A=1,B=2 K A,B(1) W $D(A),$D(B)", "01", "I 1,0,1/0", "");
    }

    private static void argumentTexts() {
        says("the text of the ATOM, which is one or more arguments of this command, no blank before or behind (else error Z3), in its place");
        runs("S X=`1` W @X", "1", "S X=`1,2,3` W @X,4", "1234", "S X=`1,2,@Y`,Y=`3,4` W @X,5", "12345", "S X=`A=1,B=2` S @X W A,B", "12", "S X=`(A,B)=1` S @X W A,B", "11", "S X=`!,*65,?5,#` W @X", "\nA    \f", "S X=`1:1`,Y=```W 1``:1,``W 2``:0` X @Y", "1");
        for (String bad : new String[] {"``", "` 1`", "`1 `", "`1,`", "`,1`", "`1;`", "`1 W 2`", "`1,,2`", "`(`", "`1`_$C(10)", "`1)`", "`;`"}) runs("S X=" + bad + " W @X", "{,Z3,}", "S X=" + bad + " X @X", "{,Z3,}", "S X=" + bad + " I @X", "{,Z3,}", "S X=" + bad + " H @X", "{,Z3,}");
        for (String bad : new String[] {"``", "` A`", "`A `", "`A,`", "`1`", "`A B`"}) runs("S X=" + bad + " K @X", "{,Z3,}", "S X=" + bad + " N @X", "{,Z3,}", "S X=" + bad + " L @X", "{,Z3,}", "S X=" + bad + " R @X", "{,Z3,}", "S X=" + bad + " S @X", "{,Z3,}", "S X=" + bad + " M @X", "{,Z3,}");
        runs("S X=`A` S @X", "{,Z3,}", "S X=`A=1:1` S @X", "{,Z3,}", "S X=`1:0` W @X", "{,Z3,}", "S X=`A+1` D @X", "{,M13,}", "S X=`A(1` D @X", "{,Z3,}", "S X=`A(1)` G @X", "{,Z3,}", "S X=`A:0` G @X W 1", "1", "S X=`1/0,2` W @X", "{,M9,}", "S X=`0,1` I @X W 1", "", "S X=`1,1` I @X W 1", "1");
    }

    private static void blocks() {
        says("DO alone (nothing is done without such lines)");
        run("A W 1 D  W 2\n W 3", "D ^R", "123");
        run("A W 1 D  W 2", "D ^R", "12");
        run("A W 1 D  W 2\n ..W 9\n W 3", "D ^R", "123");
        run("A W 1 D  W 2\n W 3\n .W 9", "D ^R", "123");
        runs("W 1 D  W 2", "12", "W 1 D", "1", "X `D  W 1`", "1");
        says("a new level of the lines behind this one whose level is 1 more than this line's, up to one with a lesser one");
        run("A D  W 5\n .W 1\n ..W 9\n .W 2\n ...W 9\n .W 3\n W 6\n .W 9", "D ^R", "12356");
        run("A D  W 5\n ..W 9\n .W 1\n W 6", "D ^R", "156");
        run("A D  W 5\n .W 1 D  W 3\n ..W 2\n .W 4\n ..W 9\n W 6", "D ^R", "123456");
        run("A D  W 5\n .W 1\n\n .W 9", "D ^R", "15");
        run("A D  W 5\n .W 1\n .\n .W 2", "D ^R", "125");
        says("$TEST comes back behind it");
        run("A I 1 D  W $T\n .I 0", "D ^R", "1");
        run("A I 0\nB D  W $T\n .I 1", "D ^R", "0");
    }

    private static void jumps() {
        says("but the entry's own line is done whatever its level is; DO alone: the lines whose level is 1 more than this line's");
        run(" . W 1 D  W 3\n ..W 2\n .W 9", "D ^R", "123");
        run(" . W 1\nA W 2", "G +1^R", "{,M45,}");
        run(" . W 1\nA G +1", "D A^R", "{,M45,}");
        says("GOTO: on from there, in the same level: FORs of this line are over");
        run("A F I=1:1:3 W I G B\n W 9\nB W 4,$ST", "D ^R W 5", "1415");
        run("A F I=1:1:3 D C\n W 5 Q\nC F J=1:1:3 W J G B\nB W 4", "D ^R", "1414145");
        says("the line must have the level of this one, and, above 1, be of the same routine with no line of a lesser level between (else M45");
        run("A D  Q\n .W 1 G B\n .W 9\nB .W 2", "D ^R", "12");
        run("A D  Q\nB .W $G(X) Q:$G(X)=2  S X=$G(X)+1 G B", "D ^R", "12");
        run("A D  Q\n .W 1 G B\n ..W 9\nB .W 2", "D ^R", "12");
        run("A D  Q\n .W 1 G B\n W 9\nB .W 2", "D ^R", "1{,M45,}");
        run("A D  Q\n .W 1 G B\nB W 9", "D ^R", "1{,M45,}");
        run("A D  Q\n .W 1 G B\n .\nB ..W 9", "D ^R", "1{,M45,}");
        run("A G B\nB .W 9", "D ^R", "{,M45,}");
        run("B .W 9\n Q\nA D  Q\n .G B", "D A^R", "{,M45,}");
        House h = new House();
        h.save("S", "A D  W 9 Q\n .G B^R");
        h.save("R", "A ;\nB .W 1");
        due("another routine, above 1", h.run("D ^S"), "{,M45,}");
        h.save("T", "A W 1 G A^U");
        h.save("U", "A W 2 Q");
        due("another routine, 1", h.run("D ^T W 3"), "123");
        says("a text's line has level 1, and the level is of the routine from then on");
        run("A W 1\nB W 2\n .W 9\n W 3", "X `G B^R W 9` W 4", "234");
        run("A W 1\nB .W 2", "G B^R", "{,M45,}");
        run("A W 1\nB W $T(+0),2", "G B^R", "R2");
        says("of DO alone, behind that line, of lines of its own level as ever, up to one with a lesser one");
        run("A D  W 8 Q\n .S $ET=`S $EC=```` G B^R` W 1/0\n .W 9\n W 9\nB W 1\n .W 2\n ..W 9\n .W 3\n W 9\n .W 9", "D ^R", "1238");
    }

    private static void branches() {
        says("ELSE: with $TEST 1 the line is over");
        runs("I 1 E  W 1", "", "X `I 0` E  W 1", "1", "E  W 1", "1", "F I=1:1:3 W I X:I>1 `I 1` E  W `e`", "1e23");
        says("IF: $TEST becomes whether e is TRUE; 0: the line is over (with more arguments: the first that is not)");
        runs("I `` W 1", "", "I `1x` W 1", "1", "I -1 W $T", "1", "X `I 0 W 1` W $T", "0", "X `I 1,0,1/0` W $T", "0", "X `I 1,1,1` W $T", "1", "X `I 0,1` W $T", "0", "I 1,1 W 1", "1", "F I=1:1:3 I I#2 W I", "13", "S X=`0` F I=1:1:3 W I I @X W 9", "123", "S X=`1,I=2` F I=1:1:3 I @X W I", "2");
        run("A S X=`0` I @X W 9\n W 1", "D ^R W 2", "12");
    }

    private static void quits() {
        says("QUIT: in a FOR's part of a line (without e) this FOR is over, the innermost; else the level is over");
        run("A F I=1:1:3 W I Q:I=2\n W 4", "D ^R W 5", "1245");
        run("A F I=1:1:3 F J=1:1:3 W I,J,` ` Q:J=2\n W 4 Q\n W 9", "D ^R W 5", "11 12 21 22 31 32 45");
        run("A Q\n W 9", "D ^R W 5", "5");
        run("A F I=1:1:3 D  W I\n .W `b` Q\n .W 9\n W 4", "D ^R", "b1b2b34");
        run("A F I=1:1:2 X `Q  W 9` W I\n W 4", "D ^R", "124");
        run("A F I=1:1:3 Q  W 9\n W I Q\n W 9", "D ^R W 5", "15");
        says("e in an extrinsic's level, none in others (behind the working of e: M16 in these; without e M17)");
        run("A Q 1", "D ^R", "{,M16,}");
        run("A Q 1/0", "D ^R", "{,M9,}");
        run("A Q", "W $$^R", "{,M17,}");
        run("A W 1", "W $$^R", "1{,M17,}");
        run("A D  Q 1\n .Q 2", "W $$^R", "{,M16,}");
        run("A X `Q 2` Q 1", "W $$^R", "{,M16,}");
        run("A X `Q` D  Q 1\n .Q", "W $$^R", "1");
        runs("Q 1", "{,M16,}", "X `Q 1`", "{,M16,}", "X `Q` W 1", "1", "W 1 Q  W 2", "1");
        run("A S $ET=`S $EC=```` W 7` Q 1 W 9", "D ^R W 8", "78");
        run("A S $ET=`S $EC=```` W 7` Q", "W $$^R,8", "78");
        says("In a FOR's part with e: the level is over");
        run("A F I=1:1:3 W I Q:I=2 5\n W 9", "W $$^R", "125");
        run("A F I=1:1:3 Q 5", "D ^R", "{,M16,}");
        run("A F I=1:1:3 F J=1:1:3 Q 5\n W 9", "W $$^R,I", "51");
    }

    private static void loops() {
        says("NAME = e: one round with this value");
        runs("F I=`05x`,``,2 W `[`,I,`]`", "[05x][][2]", "F I=1 W I S I=5", "1", "F I=1,2,3 Q:I=2  W I", "1");
        says("e:f: the number of e, then f more each round without an end");
        runs("F I=`2x`:`3y` W I Q:I>7", "258", "F I=1:0 W I S J=$G(J)+1 Q:J=3", "111", "F I=1:-1 W I Q:I<0", "10-1", "F I=.5:.25 W I,` ` Q:I=1", ".5 .75 1 ");
        says("e:f:g: as long as it is not above g (f 0 or more) or below it (f below 0); looked at before each round, the first, too");
        runs("F I=1:1:3 W I", "123", "F I=1:2:4 W I", "13", "F I=1:1:1 W I", "1", "F I=1:1:.9 W I", "", "F I=3:-1:1 W I", "321", "F I=3:-2:2 W I", "3", "F I=1:-1:1 W I", "1", "F I=1:-1:1.1 W I", "", "F I=1:0:1 W I Q:$G(J)  S J=1", "11", "F I=1:0:.5 W I", "", "F I=2:0:1 W 9", "", "F I=0:0:0 W I Q", "0",
            "F I=1:.3:2 W I,` `", "1 1.3 1.6 1.9 ", "F I=1:1:`x` W I", "", "F I=-1:1:`` W I", "-10");
        says("All three are worked out when their range begins, as numbers, and NAME becomes e's (with a round or not)");
        runs("X `F I=``5x``:1:1 W 9` W I", "5", "S N=3,S=1 F I=1:S:N S N=9,S=5 W I", "123", "F I=1:1:2,I*5:1:I*5+1 W I,` `", "1 2 10 11 ", "X `F I=1:1:3` W I", "3", "X `F I=1:2:4` W I", "3", "F I=1/0:1:2 W 9", "{,M9,}", "F I=1:1/0:2 W 9", "{,M9,}", "F I=1:1:1/0 W 9", "{,M9,}", "F I=1,1/0 W I", "1{,M9,}",
            "F I=`1E30`:1:2 W 9", "{,M92,}", "F I=1:1:`1E30` W 9", "{,M92,}", "F I=`1E30` W I", "1E30", "X `F I=1,``7``:1:3 W I` W I", "17");
        says("Before the next round NAME is read, and f more is what it becomes, if that round is to be");
        runs("F I=1:1:9 S I=I+3 W I,` `", "4 8 12 ", "F I=1:1:3 W I S I=`2x`", "1" + "3".repeat(1999), "X `F I=1:1:3 S I=7` W I", "7", "F I=1:1:3 S:I=1 I=`1E30` W I", "1E30{,M92,}", "F I=9E29:9E28 W 1", "11{,M92,}");
        says("(Without a value then: M15.)");
        runs("F I=1:1:3 K I", "{,M15,}", "F I=1:1 K I", "{,M15,}", "F I=1:1:1 K I", "{,M15,}", "F I=1:1:3 N I", "{,M15,}", "F I=1,2 K I W 1", "11", "F I=1:1:3 K I S I(1)=5", "{,M15,}", "F I=1:1:3 W I K I Q", "1", "F I=1:1:3 K I S I=5 W I", "5");
        says("FOR alone: rounds without end. Behind the last range the line is over");
        run("A F  S I=$G(I)+1 W I Q:I=3\n W 4", "D ^R", "1234");
        run("A F I=1:1:2 W I\n W 4", "D ^R W 5", "1245");
        says("when it is done, or a command in it ends the line, the round is over");
        runs("F I=1:1:3 W I I I=2 W `x`", "12x3", "F I=1:1:3 I I=2 E  W I", "", "F I=1:1:3 X `I I=2` E  W I", "13", "F I=1:1:2 F J=1:1:2 I J=2 W I", "12");
        says("(Also one of its extrinsics ..) looked at in the turn before");
        House h = house("F I=1:1:3 W I");
        due("turn 1", h.house.turns(1), 1);
        due("I", h.look(0, "I", 0), "1");
        due("begun", h.house.state(0, 9), 1);
        h.house.turns(1);
        due("the round", h.house.state(0, 9), 2);
        due("nothing written", h.written(0), "");
        h.house.turns(1);
        due("W, then the next round's NAME", h.written(0) + h.look(0, "I", 0), "12");
        due("begun", h.house.state(0, 9), 3);
        due("the rest", h.house.turns(9), 4);
        due("begun", h.house.state(0, 9), 7);
        h = house("F I=1:1:0 W I", "F I=5 W I", "F  Q");
        due("turns", turns(h, 20), 1 + 3 + 3);
        due("begun", h.house.state(0, 9) * 100 + h.house.state(1, 9) * 10 + h.house.state(2, 9), 133);
    }

    private static void sets() {
        says("SET: first subscripts of all targets from the left, then e, then the targets from the left");
        runs("S I=1,A(I)=I,I=2 S (I,A(I))=I+5 W I,A(2)", "77", "S I=1 S (A(I),I,B(I))=2 W A(1),B(1)", "22", "S A=1 S (A,B)=A+1 W A,B", "22", "S (A,$ET,B)=5 W A,$ET,B", "555", "S (A,$EC,B)=`` W $D(A),$D(B)", "11", "S (A(1),$ET,$EC,$P(B,1,2),^C(2),$E(D,2))=`` W $D(A(1)),B,$D(^C(2)),D,$ET", "111 ", "S ($EC,$ET,A)=`` W $D(A)", "1", "S ($P(A,`,`,2),$ET,$E(B,2,3),C)=7 W A,$ET,B,C", ",77 77", "S (A,A(1),A)=5 W A,A(1)", "55", "S A(1/0)=B", "{,M9,}", "S A(B)=1/0", "{,M6,}", "S $P(A,B)=1/0", "{,M6,}");
        run("F S X=$G(X)_$G(Y) Q X", "S Y=1,(A($$F^R),B($$F^R))=$$F^R W $O(A(``)),$O(B(``)),A(1)", "111111");
        says("$ECODE: empty: it is; else , and one byte or more and , (else M101): it is that, and that is an error (with this code, nothing more is added)");
        runs("S $EC=`` W 1", "1", "S $EC=`,a,` W 1", "{,a,}", "S $EC=`,a,b,` W 1", "{,a,b,}", "S $EC=`,,,` W 1", "{,,,}", "S $EC=`,`", "{,M101,}", "S $EC=`,,`", "{,M101,}", "S $EC=`a`", "{,M101,}", "S $EC=`,a`", "{,M101,}", "S $EC=`a,`", "{,M101,}", "S $EC=`abc`", "{,M101,}", "S $EC=`,ab`", "{,M101,}", "S $EC=`ab,`", "{,M101,}", "S $EC=`,a,b`", "{,M101,}", "S $EC=`a,b,`", "{,M101,}", "S $EC=1", "{,M101,}",
            "S $ET=`S $EC=```` W $EC,1` S $EC=`,a,`", "1", "S $ET=`S $EC=``,b,``` S $EC=`,a,`", "{,b,}", "S $ET=`S $EC=``b``` S $EC=`,a,`", "{,a,M101,}", "S ($EC,A)=`,a,`", "{,a,}", "S $ET=`S $EC=```` W $D(A),$D(B)` S (A,$EC,B)=`,a,`", "10");
        says("$ETRAP: this level's");
        runs("S $ET=`a b` W $ET X `W $ET S $ET=1 W $ET` W $ET", "a ba b1a b", "S $ET=`` W `[`,$ET,`]`", "[]", "S $ET=$J(1,250) W $L($ET)", "250");
    }

    private static void kills() {
        says("KILL ref: the node and all below");
        runs("S A=1,A(1)=1,A(1,2)=1,A(12)=1 K A(1) W $D(A),$D(A(1)),$D(A(1,2)),$D(A(12))", "11001", "S A=1,A(1)=1 K A W $D(A)", "0", "K A,^A,A(1) W 1", "1", "S ^A(1)=1,^B=2 K ^A W $D(^A),$D(^B)", "01", "S A(1)=1 K A(1) W $D(A)", "0");
        says("KILL alone: all locals; ( NAMES ): all but these");
        runs("S A=1,B(1)=1,^A=1 K  W $D(A),$D(B),$D(^A)", "001", "S A=1,B(1)=1,C=1 K (B) W $D(A),$D(B),$D(C)", "0100", "S A=1,B=1 K (A,B,C) W $D(A),$D(B)", "11", "S A=1 K (B) W $D(A)", "0", "S A=1,B=1,C=1 K (A,B),(B,C) W $D(A),$D(B),$D(C)", "010");
        says("of each name for itself");
        House h = house("S ^A=1,^B=1 K ^A,^B,^C,^A(1)");
        turns(h, 9);
        due("units", h.house.count(12), 4);
    }

    private static void news() {
        says("NEW NAME: the local is hidden till the level is over, when what it was comes back (again in the same level: it is hidden once more)");
        runs("S A=1 X `N A W $D(A) S A=2 N A W $D(A) S A=3` W A", "001", "X `N A S A=1` W $D(A)", "0", "S A(1)=1 X `N A S A(2)=1` W $D(A(1)),$D(A(2))", "10", "S A=1 X `N A K A` W A", "1", "S A=1 N A W $D(A)", "0", "S A=1 X `N A,A S A=5` W A", "1", "S A=1 X `N B S A=5` W A", "5");
        run("A N X S X=2 D  W X Q\n .N X S X=3 W X", "S X=1 D ^R W X", "321");
        run("A N X S X=2 W 1/0", "S X=1,$ET=`S $EC=```` W X` D ^R", "1");
        House h = house("S A=1,A(1)=2,B=3 X `N A S A=4 N B,A S A(2)=5` R X S C=1 X `N  S A=6,D=7` R X X `N (A,Z) S C=8,Z=9` R X");
        turns(h, 40);
        due("values", h.house.count(2) * 10 + h.house.state(0, 11), 33);
        h.tell(0, "x");
        turns(h, 40);
        due("values, X and C, too", h.house.count(2) * 10 + h.house.state(0, 11), 55);
        h.tell(0, "x");
        turns(h, 40);
        due("values, and Z", h.house.count(2) * 10 + h.house.state(0, 11), 66);
        h.house.halt(0);
        due("values", h.house.count(2), 0);
        h = house("S A=1 N A S A=2 X `N  S B=1 R X`");
        turns(h, 20);
        due("values", h.house.count(2) * 10 + h.house.state(0, 11), 31);
        h.house.halt(0);
        due("hidden ones, too", h.house.count(2), 0);
        says("NEW alone all, ( NAMES ) all but these");
        runs("S A=1,B=2 X `N  W $D(A),$D(B) S A=3,C=4` W A,B,$D(C)", "00120", "S A=1,B=2 X `N (A) W $D(A),$D(B) S A=3,B=4,C=5` W A,B,$D(C)", "10320", "X `N  S A=1` W $D(A)", "0", "X `N (A) S A=1` W $D(A)", "1", "S A=1 X `N (A,B,C) S A=2` W A", "2", "S A=1 X `N  N  S A=2` W A", "1", "S A=1 X `N A S A=2 N  S A=3` W A", "1");
    }

    private static void merges() {
        says("MERGE a=b: each node at b and below that has a value is put at a, below with the same subscripts more");
        runs("S B=1,B(1)=2,B(1,2)=3,B(`x`)=4 M A(7)=B W A(7),A(7,1),A(7,1,2),A(7,`x`)", "1234", "S B(1,2)=3 M A=B(1) W $D(A),A(2)", "103", "S A(1)=5,A(3)=6,B(1)=7 M A=B W A(1),A(3)", "76", "M A=B W $D(A)", "0", "S A=1 M A=B W A", "1", "S B(1)=1 M ^A=B,C=^A W C(1)", "1");
        says("the same one, or one of them in the other: M19");
        runs("M A=A", "{,M19,}", "M A(1)=A", "{,M19,}", "M A=A(1)", "{,M19,}", "M A(1)=A(1)", "{,M19,}", "M A(1,2)=A(1)", "{,M19,}", "M ^A=^A", "{,M19,}", "M ^A(1)=^A", "{,M19,}", "M ^A=^A(1)", "{,M19,}", "S A(1)=5 M A(2)=A(1) W A(2)", "5", "S A(1)=5 M A(12)=A(1) W A(12)", "5", "S A=5 M ^A=A W ^A", "5",
            "S ^A=5 M A=^A W A", "5", "S A(1)=5 M AA=A W AA(1)", "5", "S X=`A` M A=@X", "{,M19,}");
        run("F(X) M X=V(1)", "S V(1)=1 D F^R(.V)", "{,M19,}");
        run("F(X) N V S V(1)=5 M X=V W X(1)", "D F^R(.V) W V(1)", "55");
        says("(b is met as a global behind a.)");
        runs("S ^B(5,5)=1 M ^A(1,1)=^B(5,5) W $NA(^(9))", "^B(5,9)", "M ^A(1,1)=B W $NA(^(9))", "^A(1,9)", "S ^A(1,2)=1 M ^A(1,1)=^(2) W ^A(1,1)", "1", "M A=^(1)", "{,M1,}", "S ^X(1)=1 M A(``)=^Y(1,1)", "{,Z2,}");
    }

    private static void writes() {
        says("* n: the byte n (0 .. 255, else nothing)");
        runs("W *0,*255,*65", "\0\u00ffA", "W *256,*-1,*1000,$X", "0", "W *65.9,*-.5", "A\0", "W *`66x`", "B");
        says("! byte 10, # byte 12, ? n: blanks till $X is n (none if n is 1000000 or more)");
        runs("W !,#,!#!", "\n\f\n\f\n", "W ?3,1", "   1", "W 12,?2,3", "123", "W 12,?3,3", "12 3", "W 12,?1,3", "123", "W ?0,?-1,1", "1", "W 1,!?2,3", "1\n  3", "W 12,#?2,3", "12\f  3", "W ?1000000,$X", "0", "W ?1000001,$X", "0");
        House h = house("W ?999999", "W ?999999 W 1", "W ?999998 W 1", "F I=1:1:2000 W 1", "W ?1999,12", "W ?2000");
        turns(h, 9000);
        due("$X", h.house.state(0, 5), 999999);
        due("kept", h.house.state(0, 8), 2000);
        says("$X is how many bytes stand behind the last 10 or 12 that was written, $Y how many 10 behind the last 12 (both modulo 1000000)");
        due("$X", h.house.state(1, 5), 0);
        due("$X", h.house.state(2, 5), 999999);
        runs("W 1,*10,23,$X", "1\n232", "W 1,*12,$X", "1\f0", "W $C(10)_1,$X", "\n11", "W $C(12,10),$Y,$X", "\f\n11", "W !!,$Y,#,$Y,!,$Y", "\n\n2\f0\n1", "W $C(13),$X", "\r1");
        h = new House();
        h.save("R", "A F I=1:1:399 D B\n Q\nB W " + "!".repeat(2500) + " Q");
        h.process("D ^R");
        turns(h, 4000);
        due("$Y", h.house.state(0, 6), 997500);
        h.process("D ^R,B^R");
        turns(h, 4000);
        due("$Y", h.house.state(1, 6), 0);
        h.process("D ^R,B^R W !");
        turns(h, 4000);
        due("$Y", h.house.state(2, 6), 1);
        says("Of what a process writes 2000 bytes are kept at most (till it is taken away), others are gone, but count in $X, $Y");
        h = house("F I=1:1:1999 W `a`");
        turns(h, 9000);
        due("kept", h.house.state(0, 8), 1999);
        h = new House();
        h.save("R", m("A F I=1:1:2000 W `a`\n W `bc`,! R X W `d`"));
        h.process("D ^R");
        turns(h, 9000);
        due("kept", h.house.state(0, 8), 2000);
        due("the last kept", h.house.written(0, 1999), 'a');
        due("none behind", h.house.written(0, 2000), -1);
        due("$X", h.house.state(0, 5), 0);
        due("$Y", h.house.state(0, 6), 1);
        due("taken", h.house.take(0), 2000);
        h.tell(0, "");
        turns(h, 9);
        due("on", h.written(0), "d");
    }

    private static void reads() {
        says("READ ref: the next told line is its value; none: it waits");
        House h = house("R A W A R B W B");
        h.tell(0, "x");
        due("turns", turns(h, 20), 3);
        due("written", h.written(0), "x");
        due("waits", h.house.state(0, 0), 3);
        due("idle", turns(h, 5), 0);
        h.tell(0, "");
        due("turns", turns(h, 20), 2);
        due("an empty line", h.written(0) + h.look(0, "B", 0), "x-1");
        says("with e (a number of seconds): till so much later, when the value is empty, $TEST 0 (1 if a line came; it is as it was without e)");
        for (int n : new int[] {1, 5, 2000000000}) {
            h = house("I 1 R A:" + n + " W `[`,A,`]`,$T");
            turns(h, 9);
            due("waits " + n, h.house.state(0, 0), 3);
            h.house.time(n - 1);
            due("waits", turns(h, 9), 0);
            h.house.time(n);
            turns(h, 9);
            due("on", h.written(0), "[]0");
        }
        h = house("R A:5 W A,$T");
        turns(h, 9);
        h.tell(0, "x");
        turns(h, 9);
        due("a line came", h.written(0), "x1");
        h = house("R A:5 W A,$T");
        turns(h, 9);
        h.house.time(5);
        h.tell(0, "x");
        turns(h, 9);
        due("a line came at its end", h.written(0), "x1");
        h = house("R A W A,$T", "I 1 R A W A,$T");
        h.tell(0, "x");
        h.tell(1, "y");
        turns(h, 20);
        due("as it was", h.written(0) + h.written(1), "x0y1");
        h = house("R A:.9 W 1", "R A:-5 W 1", "R A:0 W 1");
        turns(h, 20);
        due("so much later is now", h.written(0) + h.written(1) + h.written(2), "111");
        says("READ STRING and format write");
        run("R `ab`,!,#,?3,`c`", "ab\n\f   c");
    }

    private static void hangs() {
        says("HANG n: waits till n seconds later (not at all for 0 or less)");
        House one = house("H 0,-1,.9 W 1");
        one.house.turns(1);
        due("it goes on", one.house.state(0, 0), 0);
        due("in its next turn", one.house.turns(9), 1);
        House h = house("H 0 W 1 H -1 W 2 H .99 W 3 H -3E9 W 4 H `x` W 5", "H 1 W 1", "H 1.99 W 1", "H 2 W 1");
        turns(h, 60);
        due("not at all", h.written(0), "12345");
        for (int i = 1; i < 4; i++) due("waits", h.house.state(i, 0), 2);
        h.house.time(1);
        turns(h, 20);
        due("one second", h.written(1) + h.written(2) + h.written(3), "11");
        h.house.time(2);
        turns(h, 20);
        due("two seconds", h.written(3), "1");
        says("HALT: the process is over");
        h = house("X `H` W 1", "S $ET=`H` W 1/0", "TS  S ^A=1 H");
        turns(h, 30);
        due("over", h.house.state(0, 0) * 100 + h.house.state(1, 0) * 10 + h.house.state(2, 0), 444);
        due("written", h.written(0), "");
        due("undone", h.look(0, "^A", 4), "0");
        says("BREAK nothing");
        runs("W 1 B  W 2 BREAK", "12");
    }

    private static void texts() {
        says("XECUTE: a new level of this one line (no byte 10 in it, no label; blanks before it and points are none that may be); a text that is no such line: Z3, at its level");
        runs("X `` W 1", "1", "X `;x` W 1", "1", "X `W 1`", "1", "X `W 1  `", "1", "X ` W 1`", "{,Z3,}", "X `.W 1`", "{,Z3,}", "X `A W 1`", "{,Z3,}", "X `W 1`_$C(10)", "{,Z3,}", "X `W ```_$C(10)_````", "{,Z3,}", "X ` `", "{,Z3,}", "X `W`", "{,Z3,}", "X `1`", "{,Z3,}", "X $C(10)", "{,Z3,}",
            "X `W 1 W`", "{,Z3,}", "S $ET=`W $ST S $EC=````` X `W`", "1", "X `S $ET=1` S $ET=`W $ST` X `W`", "10{,Z3,}", "X `W $L(``" + "x".repeat(220) + "``)`", "220");
    }

    private static void codes() {
        says("$ECODE becomes itself (or , if it is empty) and the code and ,");
        runs("W ^(1)", "{,M1,}", "W $R(0)", "{,M3,}", "W $S(0:1)", "{,M4,}", "W A", "{,M6,}", "W ^A", "{,M7,}", "W 1/0", "{,M9,}", "D ^A", "{,M13,}", "F I=1:1:2 K I", "{,M15,}", "Q 1", "{,M16,}", "M A=A", "{,M19,}", "W $J(1,251)", "{,M75,}", "W 1E30", "{,M92,}", "S $EC=1", "{,M101,}", "S A(``)=1", "{,Z2,}", "X `(`", "{,Z3,}",
            "D +-1^A", "{,Z4,}", "TC", "{,Z5,}", "TRE", "{,Z5,}", "TRO", "{,Z5,}", "TS  TRE", "{,Z6,}", "S $ET=`W B` W 1/0", "{,M9,M6,}");
        run("A Q", "W $$^R", "{,M17,}");
        run("A G B\nB .Q", "D ^R", "{,M45,}");
        run("A Q", "D ^R(1)", "{,M58,}");
        says("(if that had more than 250 bytes, nothing is added)");
        for (int n = 246; n <= 250; n++) {
            House h = house("S $ET=`W 1/0` S $EC=`,`_$J(1," + (n - 2) + ")_`,`");
            turns(h, 9);
            due("of " + n + " bytes", h.house.code(0), n + 3 <= 250 ? n + 3 : n);
        }
        for (int n = 244; n <= 247; n++) {
            House h = house("S $ET=`S $EC=``b``` S $EC=`,`_$J(1," + (n - 2) + ")_`,`");
            turns(h, 9);
            due("of " + n + " bytes", h.house.code(0), n + 5 <= 250 ? n + 5 : n);
        }
    }

    private static void traps() {
        says("if it has $ETRAP (not empty), and is not in its trap already: its $ETRAP is done as a line of it, and behind that line the level is over");
        runs("S $ET=`W 1 S $EC=````` W 0/0 W 2", "1", "S $ET=`W 1` S $ET=`` W 0/0", "{,M9,}", "S $ET=`S $EC=```` W 1` X `W 0/0 W 2` W 3", "13", "S $ET=`W 1,0/0` W 0/0", "1{,M9,M9,}", "S $ET=`W 1 S $ET=``W 2`` W 0/0` W 0/0", "1{,M9,M9,}", "F I=1:1:3 S $ET=`W I S $EC=````` W I,0/0", "11");
        run("A S $ET=`W 1 S $EC=````` W 0/0\n W 9", "D ^R W 2", "12");
        says("(whatever QUIT there is told: no M16, M17; an extrinsic's with an empty value)");
        run("A S $ET=`S $EC=```` Q 5` W 0/0", "D ^R W 2", "2");
        run("A S $ET=`S $EC=```` Q 5` W 0/0", "W `[`,$$^R,`]`", "[]");
        run("A S $ET=`S $EC=```` Q` W 0/0", "W `[`,$$^R,`]`", "[]");
        run("A S $ET=`S $EC=````` W 0/0", "W `[`,$$^R,`]`", "[]");
        run("A S $ET=`S $EC=```` Q 1/0` W 0/0", "W `[`,$$^R,`]`", "[{,M9,}");
        runs("S $ET=`S $EC=```` Q 5` W 0/0", "");
        says("if $ECODE is empty then, what is below goes on behind its call; else it is an error again there (nothing is added to $ECODE)");
        run("A S $ET=`W 1` W 0/0", "S $ET=`W 2,$EC S $EC=````` D ^R W 3", "12,M9,");
        run("A S $ET=`W 1 S $EC=````` W 0/0", "S $ET=`W 2` D ^R W 3", "13");
        run("A D B W 4\nB S $ET=`W 1` W 0/0", "D ^R W 3", "1{,M9,}");
        says("Without a trap the level is over, and it is an error again in the one below");
        run("A D B W 4 Q\nB D C W 5 Q\nC W 0/0", "S $ET=`W $ST,$EC S $EC=````` D ^R W 3", "0,M9,");
        says("With the lowest one the process is over, with this $ECODE");
        House h = house("W 0/0", "S $ET=`W 1` W 0/0", "S $ET=`S $EC=````` W 0/0");
        turns(h, 20);
        due("by an error, by one, not", h.house.state(0, 0) * 100 + h.house.state(1, 0) * 10 + h.house.state(2, 0), 554);
        due("codes", h.code(0) + h.code(1) + h.code(2), ",M9,,M9,");
        says("Each level has an $ETRAP of its own, empty at first (of DO alone and XECUTE: what the one below it has)");
        run("A W `[`,$ET,`]` D  X `W $ET` W $$B Q\n .W $ET S $ET=8\nB() Q `[`_$ET_`]`", "S $ET=7 D ^R", "[][]");
        run("A S $ET=7 D  X `W $ET S $ET=9` W $ET Q\n .W $ET S $ET=8 X `W $ET`", "D ^R", "7877");
        run("A S $ET=`S $EC=```` W 1` W 0/0", "D ^R,^R W 2 D ^R", "1121");
        run("A S $ET=`S $EC=```` Q 5 W 9` W 0/0", "W $$^R,1", "1");
        run("A S $ET=`S $EC=```` W 1 Q  W 9` W 0/0", "D ^R W 2", "12");
        run("A(X) S $ET=`S $EC=```` W X` W 0/0", "F I=1:1:3 X `D A^R(I)`", "123");
        runs("S X=`S $ET=Y W 0/0`,Y=`S $EC=```` W 1` X X,X W 2", "112");
        says("DO alone does nothing in the trap's line itself, behind a GOTO out of it it does");
        run("A S $ET=`S $EC=```` D  W 1 G B^R` W 0/0\n .W 9\nB D  W 3 Q\n .W 2", "D ^R W 4", "1234");
        says("(it is till it is over, also behind a GOTO out of the trap's line");
        run("A S $ET=`W 1 G B^R` W 0/0\nB W 2,0/0", "D ^R", "12{,M9,M9,}");
        run("A S $ET=`W 1 S $EC=```` G B^R` W 0/0\nB W 2 Q", "D ^R W 3", "123");
        says("all FORs and blocks .. what the level was at is given up");
        run("A S $ET=`S $EC=```` G B^R` F I=1:1:3 W I,0/0\nB W 4 Q", "D ^R W I", "141");
        run("A S $ET=`S $EC=```` W $ST` D  W 5 Q\n .W 0/0 W 9", "D ^R", "25");
        runs("S $ET=`S $EC=```` W A` S A=5 S A=A_(1_0/0)", "5");
    }

    private static void rooms() {
        says("the 31st level of a process");
        run("F(N) D:N<28 F(N+1) W:N=28 $ST Q", "D F^R(0)", "29");
        run("F(N) D:N<29 F(N+1) Q", "D F^R(0)", "{,Z1,}");
        run("F(N) Q:N=28 $ST Q $$F(N+1)", "W $$F^R(0)", "29");
        run("F(N) Q:N=29 $ST Q $$F(N+1)", "W $$F^R(0)", "{,Z1,}");
        runs("S X=`S N=$G(N)+1 X:N<29 X W:N=29 $ST S N=99` X X", "29", "S X=`S N=$G(N)+1 X:N<30 X` X X", "{,Z1,}");
        for (int n : new int[] {28, 29}) {
            StringBuilder b = new StringBuilder("A D\n");
            for (int i = 1; i < n; i++) b.append(' ').append(".".repeat(i)).append(" D\n");
            b.append(' ').append(".".repeat(n)).append(" W $ST");
            run(b.toString(), "D ^R", n == 28 ? "29" : "{,Z1,}");
        }
        run("F(N) S:N=28 $ET=`W $ST S $EC=````` D F(N+1) Q", "D F^R(0) W `x`", "29x");
        says("the 41st FOR that is open in it");
        String twenty = "F I=1 ".repeat(20);
        run("A " + twenty + "D B\n Q\nB " + twenty + "W 1", "D ^R", "1");
        run("A " + twenty + "D B\n Q\nB F  " + twenty + "W 1", "D ^R", "{,Z1,}");
        run("A " + twenty + "D B\n W 3 Q\nB " + twenty + "X `W 1 F  W 2`", "D ^R", "1{,Z1,}");
        run("A " + twenty + "Q\n " + twenty + "Q\n " + twenty + "W 1", "D ^R", "1");
        says("the 301st local that is hidden in it by NEW and formals");
        runs("F I=1:1:300 N A W:I=300 1", "1", "F I=1:1:301 N A W:I>299 I", "300{,Z1,}", "F I=1:1:300 N A I I=300 X `N A`", "{,Z1,}", "F I=1:1:299 N A I I=299 X `N A` X `N A W 1`", "1");
        run("F(A,B,C) W 1 Q", "F I=1:1:297 N A I I=297 D F^R(1)", "1");
        run("F(A,B,C) W 1 Q", "F I=1:1:298 N A I I=298 D F^R(1)", "{,Z1,}");
        run("F(A,B,C) W 1 Q 1", "F I=1:1:298 N A I I=298 S X=$$F^R()", "{,Z1,}");
        run("F(A,B,C) W 1 Q", "F I=1:1:298 N A I I=298 D F^R W 2", "12");
        says("of NEW alone and ( ) those that have DATA or are one with another by . NAME, each name in ( ), and one more");
        // I and A have DATA there, B has not
        runs("F I=1:1:297 N B I I=297 S A=1 X `N  W 1`", "1", "F I=1:1:298 N B I I=298 S A=1 X `N  W 1`", "{,Z1,}", "F I=1:1:297 N B I I=297 S A=1 X `N (A) W 1`", "1", "F I=1:1:298 N B I I=298 S A=1 X `N (A) W 1`", "{,Z1,}", "F I=1:1:297 N B I I=297 X `N (C) W 1`", "1", "F I=1:1:298 N B I I=298 X `N (C) W 1`", "{,Z1,}",
            "F I=1:1:298 N B I I=298 X `N (I) W 1`", "1", "F I=1:1:299 N B I I=299 X `N (I) W 1`", "{,Z1,}");
        // X of F and V are one without DATA: F's formal, then I, V, X and one more
        run("F(X) N  W 1 Q", "F I=1:1:295 N B I I=295 D F^R(.V)", "1");
        run("F(X) N  W 1 Q", "F I=1:1:296 N B I I=296 D F^R(.V)", "{,Z1,}");
        says("the 25th text of an @ that is being worked in it");
        runs("S B=7,A(1)=`B` F I=2:1:24 S A(I)=`@A(`_(I-1)_`)` I I=24 W 0+@A(24)", "7", "S B=7,A(1)=`B` F I=2:1:25 S A(I)=`@A(`_(I-1)_`)` I I=25 W 0+@A(25)", "{,Z1,}");
        run("F(N) X:N=0 `W 1` Q:N=0  S X=`F(N-1)` D @X Q", "D F^R(24)", "1");
        run("F(N) X:N=0 `W 1` Q:N=0  S X=`F(N-1)` D @X Q", "D F^R(25)", "{,Z1,}");
        run("F(N) I N=0 W 0+@`1` Q\n S X=`F(N-1)` D @X Q", "D F^R(2)", "{,Z3,}");
        run("F(N) I N=0 S Y=5 W 0+@`Y` Q\n S X=`F(N-1)` D @X Q", "D F^R(23)", "5");
        run("F(N) I N=0 S Y=5 W 0+@`Y` Q\n S X=`F(N-1)` D @X Q", "D F^R(24)", "{,Z1,}");
        run("F(N) I N=0 W 1?@`1N` Q\n S X=`F(N-1)` D @X Q", "D F^R(23)", "1");
        run("F(N) I N=0 W 1?@`1N` Q\n S X=`F(N-1)` D @X Q", "D F^R(24)", "{,Z1,}");
    }

    /** A line in a level below which 52 + more strings are in hand: it wants so many, and there are 60. */
    private static void strings(String line, int wanted) {
        for (int more = 8 - wanted; more <= 9 - wanted; more++) {
            String routine = "F(N) Q:'N " + "1_(".repeat(more) + "$$G^R" + ")".repeat(more) + " Q 1_(2_$$F(N-1))\nG " + line + "\n Q 5\nH(X,Y,Z) Q\nI(X,Y) Q 1";
            due(line + " with " + (52 + more) + " in hand", House.of(m(routine), m("S B=1,C=2,D=`A(1,2,3)`,E=`A`,A(1,2,3)=4,P=`1N` S X=$$F^R(26) W $L(X)")), more == 8 - wanted ? "" + (53 + more) : "{,Z1,}");
        }
    }

    /** A line with 38 or 39 nodes in hand: it wants so many, and there are 40. */
    private static void nodes(String line, int wanted) {
        for (int in = 38; in <= 39; in++) {
            String routine = "F(N) S (A,B)=$S('N:$$G^R,1:$$F(N-1)) Q 1\nG " + line + "\n Q 5";
            due(line + " with " + in + " in hand", House.of(m(routine), m("S C=1,V=2,E=`C` " + (in == 38 ? "W $$F^R(18)" : "S X=$$F^R(18) W X"))), in + wanted <= 40 ? "1" : "{,Z1,}");
        }
    }

    private static void inHand() {
        says("a string that would be the 61st, a node that would be the 41st that it has IN HAND");
        strings("S X=B", 1);
        strings("S X=B_C", 2);
        strings("S X=1,X=-B", 1);
        strings("S X=B_(C_(B_C))", 4);
        strings("S X=B_C_B_C", 2);
        strings("S X=$P(B,C,B,C)", 4);
        strings("S X=$C(B,C,B,C,B)", 5);
        strings("S X=$S(0:1,1:2)", 1);
        strings("S X=$G(Q,B_C)", 2);
        strings("S $P(X,B,C,C)=B", 4);
        strings("S $E(X,C,C)=B", 3);
        strings("S X=A(1,2,3)", 3);
        strings("S X=@D", 3);
        strings("S X=1+@D", 4);
        strings("S X=@E@(1,2,3)", 3);
        strings("S X=B?@P", 2);
        strings("K X(1,2)", 2);
        strings("L X(1,2):C", 2);
        strings("M X(1,2)=A(1,2,3)", 3);
        strings("I B,C", 1);
        strings("F X=1:2:0", 3);
        strings("W:B ?0", 1);
        strings("X ``:B", 1);
        says("a node's subscripts are no strings in hand any more when it is");
        strings("S X(1,2)=B_C", 2);
        strings("S (X(1,2),Y(1,2))=B", 2);
        says("an actual is one in any case");
        strings("D H^R(.B,,C)", 3);
        strings("D H^R(,,)", 3);
        strings("D H^R(.B)", 1);
        strings("S X=$$I^R(.B,.C)", 2);
        says("till the operator, function, node, call, command that has it is done");
        nodes("S Z=1", 1);
        nodes("S Z=C", 2);
        nodes("S (Z,Y)=1", 2);
        nodes("S (Z,Y)=C", 3);
        nodes("S Z=C+C+C", 2);
        nodes("M Z=C", 2);
        nodes("K Z", 1);
        nodes("L (Z,Y)", 2);
        nodes("L (Z,Y,W)", 3);
        nodes("S Z=$D(C)", 2);
        nodes("S Z=$NA(C,C)", 3);
        nodes("S Z=$O(C(1),C)", 3);
        nodes("K Z(C,V)", 1);
        nodes("S Z=@E", 2);
        nodes("S $P(Z,C)=V", 2);
        says("$GET's node is none behind its being met, that is while its second one is worked out");
        nodes("S Z=$G(Q,C)", 2);
        nodes("S Z=$G(Q,$G(W,$G(Y,C)))", 2);
        nodes("S Z=$G(Q(C),$O(C(1),V))", 3);
    }

    /** A line of a hundred arguments: what each of them had in hand is none any more when the next one begins. */
    private static void hundred(String command, String argument, String behind, String want) {
        String r = "A(X) S Q=1,Q(1)=2,P=`Q`,V=`W ?0`,Y=`1`,E=`L^R`,N=0,G=`1N`\n " + command + repeated(argument, 100, ",") + " " + behind + "\n Q\nL(X,Y) Q\nK(X) Q 0\nZ Q";
        due(command + argument + " a hundred times", House.of(m(r), "D A^R(1)"), want);
    }

    private static void left() {
        says("till the operator, function, node, call, command that has it is done");
        String[] hundreds = {"K ", "Z", "K ", "Z(1,2)", "K ", "(A,Q,P,V,Y,E,N,G)", "L ", "+A(1)", "L ", "-A(1):1", "L ", "A:0", "L ", "+(A,A(2)):1", "H ", "0", "H ", "-1", "M ", "Z=Q", "M ", "Z(1)=U", "S ", "Z=1", "S ", "Z(1,2)=Q(1)", "S ", "$P(Z,1,2)=3", "S ", "$P(Z,``,2)=3", "S ", "$P(Z,1,2,1)=3", "S ", "$E(Z,2)=3", "S ", "$E(Z,2,1)=3",
            "S ", "$ET=1", "S ", "$EC=``", "S ", "(Z,U)=1", "S ", "@P=Q", "S ", "@P@(1)=2", "W ", "*-1", "W ", "?0", "W ", "``", "W ", "$E(1,2)", "I ", "1", "I ", "@Y", "X ", "``", "X ", "V", "X ", "1:0", "X ", "@Y:0", "D ", "L^R", "D ", "L^R(1,.Z)", "D ", "L^R()", "D ", "L+0^R", "D ", "+4^R", "D ", "@E", "D ", "@E:1", "D ", "L:N", "G ", "@E:N", "G ", "L:N",
            "S ", "Z=$O(Q(0),1)", "S ", "Z=$O(Q,-1)", "S ", "Z=$NA(Q(1),1)", "S ", "Z=$G(Q(1),2)", "S ", "Z=$G(Q(2),2)", "S ", "Z=$D(Q)", "S ", "Z=$Q(Q)", "S ", "Z=$T(+1^R)", "S ", "Z=$T(L+1)", "S ", "Z=$$K(1)", "S ", "Z=$$K(.U)", "S ", "Z=$P(1,2,3,4)", "S ", "Z=1?@G", "S ", "Z=1?1N", "S ", "Z=@P", "S ", "Z=$S(0:1,1:2)", "S ", "Z=1+2*3_4", "S ", "Z=-1", "S ", "Z=$C(1,2,3)",
            "S ", "Z=$J(1,2,3)", "S ", "Z=$F(1,2,3)", "S ", "Z=$TR(1,2,3)", "S ", "Z=$L(1,2)", "S ", "Z=$A(1,2)", "S ", "Z=$QS(`A(1)`,1)", "S ", "Z=$FN(1,2)"};
        for (int i = 0; i < hundreds.length; i += 2) hundred(hundreds[i], hundreds[i + 1], "S $ET=`` W 5", "5");
        hundred("N ", "Z", "W 5", "5");
        hundred("R ", "!", "W 5", "\n".repeat(100) + "5");
        hundred("R ", "Z:0", "W 5", "5");
        hundred("F I=", "1", "S N=N+1 W:N=100 5", "5");
        hundred("F I=", "1:1:1", "S N=N+1 W:N=100 5", "5");
        hundred("F I=", "1:1:0", "W 9", "");
        run("A " + repeated("W:0 1", 100, " ") + " W 5", "D ^R", "5");
        run("A " + repeated("TS * TC", 60, "  ") + "  W 5", "D ^R", "5");
        run("A " + repeated("TS (A) TRO", 60, "  ") + "  W 5", "D ^R", "5");
        run("A S X=`D`\nB S I=$G(I)+1 W:I=50 I Q:I=50  S L=`B` G @L", "D ^R", "50");
        runs("S X=`0` F I=1:1:50 I @X", "", "S X=`1` F I=1:1:50 I @X W:I=50 5", "5");
        says("What an expression was at is given up");
        String twenty = repeated("X", 20, ",");
        run("A S $ET=`S $EC=````` S (" + twenty + ")=1/0", "F I=1:1:20 D ^R W:I=20 5", "5");
        run("A S $ET=`S $EC=````` W 1_(2_(3_(4_(5_(6_(7_(8_1/0)))))))", "F I=1:1:20 D ^R W:I=20 5", "5");
        run("A S $ET=`S $EC=````` W @`1/0`", "F I=1:1:40 D ^R W:I=40 5", "5");
        run("A S $ET=`S $EC=````` F J=1 F K=1 F L=1 W 1/0", "F I=1:1:40 D ^R W:I=40 5", "5");
        run("A S V=1,$ET=`S $EC=```` S (" + twenty + ")=V W 5` S (" + twenty + ")=1/0", "D ^R", "5");
        run("A S $ET=`S $EC=```` F I=1 F I=1 F I=1 W 5` " + repeated("F I=1", 38, " ") + " W 1/0", "D ^R", "5");
        run("A S $ET=`S $EC=```` X X`,X=`W 1/0` N A,B,C,D,E X X", "F I=1:1:61 D ^R W:I=61 5", "{,Z1,}");
        run("A S $ET=`S $EC=````` N A,B,C,D,E W 1/0", "F I=1:1:80 D ^R W:I=80 5", "5");
        run("A S A(24)=`Y`,Y=7 F I=23:-1:1 S A(I)=`@A(`_(I+1)_`)`\n W 0+@`Y`,0+@A(2),0+@A(1)", "D ^R", "777");
    }

    private static void lists() {
        says("( NAME , .. ): twenty of them");
        String twenty = "";
        for (int i = 1; i <= 20; i++) twenty += (i > 1 ? "," : "") + "A" + i;
        String set = "S (" + twenty + ")=1,B=2 ";
        run("R " + set + "K (" + twenty + ") W $D(A1),$D(A19),$D(A20),$D(B)", "D ^R", "1110");
        run("R " + set + "N (" + twenty + ") W $D(A1),$D(A19),$D(A20),$D(B)", "D ^R W B", "11102");
        run("R " + set + "TS (" + twenty + ") W A1,A19,A20,B S (" + twenty + ")=3,B=4 TRE:$TR<1", "D ^R", "11121114");
        run("F(" + twenty + ") W $D(A1),$D(A19),$D(A20) Q", "D F^R(" + repeated("1", 20, ",") + ")", "111");
        run("F(" + twenty + ") W $D(A1),$D(A19),$D(A20) Q", "D F^R(" + repeated("", 20, ",") + ")", "000");
        run("F(" + twenty + ") S A20=5 Q", "D F^R(" + repeated("", 20, ",") + ".V) W V", "5");
        run("R S (" + twenty + ")=7 W A1,A10,A20", "D ^R", "777");
        run("AB S B=1 K  W $D(B)", "D ^R", "0");
        run("AB S B=1 X `N  W $D(B)` N  W $D(B)", "D ^R", "00");
        says("names come and go: there is always room for them");
        runs("F I=1:1:4500 S @(`A`_I)=1 K @(`A`_I) W:I=4500 5", "5", "F I=1:1:1700 S N=`A`_I X `N @N S @N=1` I I=1700 W 5", "5", "F I=1:1:1700 S N=`A`_I X `N (N) S @N=1` I I=1700 W 5", "5", "F I=1:1:1700 S @(`A`_I)=1 K (I) I I=1700 W 5", "5");
        run("F(X) Q", "F I=1:1:1700 S N=`F^R(.A`_I_`)` D @N I I=1700 W 5", "5");
        run("F(X) S X=1 K X Q", "F I=1:1:1700 S N=`F^R(.A`_I_`)` D @N I I=1700 W 5", "5");
    }

    private static void entries() {
        String r = "A ;1\n W 2\nB W 3\n .W 9\n W 4";
        says("THE ENTRY: a label's line, and the e-th behind it; + e: the e-th line from the routine's beginning (+ 1 its first); ^ NAME its first line");
        run(r, "D A^R", "234");
        run(r, "D ^R", "234");
        run(r, "D +1^R", "234");
        run(r, "D +2^R", "234");
        run(r, "D A+1^R", "234");
        run(r, "D A+0^R", "234");
        run(r, "D A+2^R", "34");
        run(r, "D B+2^R", "4");
        run(r, "D +5^R", "4");
        says("M13 no such label, line (+ 0 neither) or routine");
        for (String c : new String[] {"D ", "G ", "J "}) {
            for (String e : new String[] {"+0^R", "+6^R", "A+5^R", "B+3^R", "C^R", "C+1^R", "^S", "A^S", "+1^S", "+0^S", "a^R", "AA^R"}) run(r, c + e, "{,M13,}");
        }
        for (String e : new String[] {"C^R", "^S", "A^S"}) run(r, "W $$" + e, "{,M13,}");
        says("but the entry's own line is done whatever its level is");
        run(r, "D +4^R", "94");
        run("A W 1\nB ..W 2 D  W 4\n ...W 3\n .W 9\n W 5", "D B^R", "2345");
        says("Lines with points are not done in a level of an entry (they are passed over) but by DO alone");
        run("A W 1\n .W 9\n ..W 9\n W 2\n .W 9", "D ^R W 3", "123");
        says("it is over by QUIT, by the end of its lines (of a routine; of a block; of its one line): an extrinsic's: M17");
        run("A W 1", "D ^R W 2", "12");
        run("A", "D ^R W 2", "2");
        run("", "W 1", "1");
        run("A", "W $$^R", "{,M17,}");
        House h = new House();
        h.save("S", "");
        due("an empty routine", h.run("D ^S W 1"), "1");
    }

    private static void actuals() {
        says("each formal is NEW in the level, and has the actual: . NAME: it and the local of that name of the level below are one from now on (till the level is over; also if that has no value)");
        run("F(X) S X=5,X(1)=6 Q", "D F^R(.V) W V,V(1),$D(X)", "560");
        run("F(X) K X Q", "S V=1,V(1)=2 D F^R(.V) W $D(V)", "0");
        run("F(X) W X Q", "S X=1,V=2 D F^R(.V) W X", "21");
        run("F(X) S X=3 Q", "S X=1 D F^R(.X) W X", "3");
        run("F(X,Y) S X=1 W Y Q", "D F^R(.V,.V)", "1");
        run("F(X) S V=7 W X Q", "D F^R(.V) W V", "77");
        run("F(X) Q", "D F^R(.V) W $D(V),$D(X)", "00");
        run("F(X) S X=1 Q X+1", "W $$F^R(.V),V", "21");
        says("an e its value; nothing: none. Fewer actuals: the other formals are NEW");
        run("F(X,Y,Z) W $D(X),$D(Y),$D(Z) Q", "S (X,Y,Z)=1 D F^R(1) D F^R(,2) D F^R(,,) D F^R() D F^R(1,2,3)", "100010000000111");
        run("F(X) S X=5 Q", "S V=1 D F^R(V) W V", "1");
        run("F(X) W X,$D(X) Q", "S A(1)=5,^B(2)=6 D F^R(A(1)),F^R(^B(2))", "5161");
        run("F(X) W $L(X) Q", "D F^R(``),F^R($J(1,250))", "0250");
        says("(Actuals: also ( ) alone. Without brackets nothing is NEW.)");
        run("F(X) W $D(X) S X=2 Q", "S X=1 D F^R() W X D F^R W X", "0112");
        run("F() W 1 Q", "D F^R() D F^R", "11");
        run("F W 1 Q", "D F^R", "1");
        says("M58 too many actuals, or to a label without formals");
        run("F(X) W 1 Q", "D F^R(1,2)", "{,M58,}");
        run("F(X) W 1 Q", "D F^R(,)", "{,M58,}");
        run("F() W 1 Q", "D F^R(1)", "{,M58,}");
        run("F() W 1 Q", "D F^R(.X)", "{,M58,}");
        run("F W 1 Q", "D F^R(1)", "{,M58,}");
        run("F W 1 Q", "D F^R()", "{,M58,}");
        run(" W 1 Q", "D ^R()", "{,M58,}");
        run("F(X) Q 1", "W $$F^R(1,2)", "{,M58,}");
        run("F(X) Q", "J F^R(1,2)", "{,M58,}");
        run("F(X) Q", "D G^R(1)", "{,M13,}");
        says("Actuals are worked out from the left, then the entry's + e before them: that first");
        run("F(X,Y) W X,Y Q", "D F^R(1/0,A)", "{,M9,}");
        run("F(X,Y) W X,Y Q", "D F^R(A,1/0)", "{,M6,}");
        run("F(X,Y) W X,Y Q", "D G^R(1/0)", "{,M9,}");
    }
}

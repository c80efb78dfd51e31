/** Parts 1, 2 and 4: operators, functions, patterns, nodes, as processes write them. */
public final class ExpressionTest {
    public static void main(String[] args) {
        operators();
        patterns();
        functions();
        pieces();
        nodes();
        naked();
        indirection();
        texts();
        inHand();
        House.report();
    }

    private static void value(String expression, String want) {
        House.due(expression, House.of("", "W " + expression), want);
    }

    private static void run(String text, String want) {
        House.due(text, House.of("", text), want);
    }

    private static void operators() {
        value("1+2*3", "9");
        value("\"a\"_1_\"\"_.50", "a1.5");
        value("$L($J(1,125)_$J(1,125))", "250");
        value("$J(1,125)_$J(1,126)", "{,M75,}");
        value("1=1,1=\"1.0\",1=1.0,\"a\"=\"A\",\"\"=\"\"", "10101");
        value("1'=1,1'=2,2<10,10<2,2>10,\"a\"<1,1'<1,1'>1", "01100111");
        value("\"abc\"[\"bc\",\"abc\"[\"\",\"abc\"[\"d\",\"abc\"'[\"d\",\"\"[\"\"", "11011");
        value("\"b\"]\"a\",\"a\"]\"b\",\"ab\"]\"a\",\"a\"]\"a\",10]2,\"a\"']\"b\",$C(200)]\"z\"", "1010011");
        value("2]]10,10]]2,\"a\"]]99,99]]\"a\",\"\"]]\"\",1]]\"\",\"\"]]1,\"1.0\"]]99,-1]]-2,.5]].25,\"b\"]]\"ab\",\"\"]]\"a\"", "011001011110");
        value("1&1,1&0,0!1,0!0,1'&1,0'!0,2&\"3x\",\"x\"!\"y\"", "10100110");
        value("'1,'0,'\"a\",''5,-\"3x\",--3,+\"0.50\",-0,'-1", "0111-33.500");
        value("1+1=2,2=1+1,1+(1=2)", "111");
        value("-2**2,2**-2,2**3**2", "4.2564");
        value("\"1E40\"&1", "{,M92,}");
        value("\"1E40\"=\"1E40\"", "1");
        value("1.50,007,1E3,.5E1,5.", "1.57100055");
        value("1E30", "{,M92,}");
        run("I 0,1E30 W 1", "");
    }

    private static void patterns() {
        value("\"\"?.A,\"\"?1A,\"a\"?1A,\"ab\"?1A,\"aB\"?2A,\"aB\"?1L1U,\"aB\"?2L", "1010110");
        value("\"a1 ,\"?1A1N2P,$C(9,127)?2C,$C(200)?1E,$C(200)?1A,$C(200)?1P,\"~ \"?2P", "111001");
        value("\"aaa\"?2.A,\"a\"?2.A,\"aaa\"?.2A,\"aa\"?.2A,\"aaa\"?1.3A,\"\"?1.3A,\"aa\"?3.1A", "1001100");
        value("\"abab\"?2\"ab\",\"abab\"?.\"ab\",\"aba\"?.\"ab\",\"a\"\"b\"?1\"a\"\"b\",\"x\"?1\"\"1\"x\",\"\"?5\"\"", "110111");
        value("\"ab12\"?1(2A,2N)1(2A,2N),\"abc\"?1(1A,2A)1(1A,2A),\"abcde\"?1(1A,2A)1(1A,2A),\"aab\"?.(1\"a\",1\"ab\")", "1101");
        value("\"abcabd\"?.(1\"abc\",1\"abd\"),\"abcab\"?.(1\"abc\",1\"abd\"),\"\"?0.(1A),\"xx\"?3(1\"x\",1\"\"),\"xx\"?2.(1\"\")", "10110");
        value("\"a1b2\"?.AN,\"a1b2\"?.AN.AN,\"12-3\"?1.N1\"-\"1.N,\"x\"?1an", "1111");
        value("\"a\"'?1A,\"a\"'?1N,1?1N=1", "011");
        value("$J(\"\",250)?250P,$J(\"\",250)?249P,$J(\"\",250)?.P,$J(\"\",250)?1.249P,$J(\"\",250)?.(1P)", "10101");
        value("$C(127)?1P,$C(31)?1P,$C(32)?1P,$C(126)?1P,$C(128)?1P,\"@[`{/:\"?6P,\"AZaz\"?2U2L,\"AZaz\"?4A,\"09\"?2N,$C(0,31,32)?2C1P", "0011011111");
        value("\"a\"?2.1A,\"\"?2.1A,\"\"?2.0A,\"a\"?0A,\"\"?0A", "00001");
        value("$J(\"\",200)_\"x\"?.P1\"x\",$J(\"\",200)_\"x\"?200P,$J(\"x\",130)?.(1P,1\"x\"),$J(\"x\",130)?64(2P)1.(1P)1\"x\"", "1011");
        // no text of @ is worked any more behind its pattern
        run("S P=\"1N\" W " + "1?@P,".repeat(30) + "2", "1".repeat(30) + "2");
        run("S P=\"1A.N\" W \"a12\"?@P,\"12\"?@P,\"12\"'?@P,\"x\"?@\"1(1\"\"x\"\")\"", "1011");
        run("S P=\"1Q\" W \"a\"?@P", "{,Z3,}");
        run("S P=\"\" W \"a\"?@P", "{,Z3,}");
        run("S P=\"@P\" W \"a\"?@P", "{,Z3,}");
        run("S P=\"1A \" W \"a\"?@P", "{,Z3,}");
    }

    private static void functions() {
        value("$A(\"AB\"),$A(\"AB\",2),$A(\"AB\",3),$A(\"AB\",0),$A(\"\"),$A(\"AB\",1.9),$A(\"AB\",-1)", "6566-1-1-165-1");
        value("$C(65,256,66,-1,67.9),$L($C(300)),$A($C(255)),$A($C(0))", "ABC02550");
        value("$E(\"abcd\"),$E(\"abcd\",2),$E(\"abcd\",2,3),$E(\"abcd\",-5,2),$E(\"abcd\",3,99),$E(\"abcd\",3,2),$E(\"abcd\",5),$E(\"abcd\",0)", "abbcabcd");
        value("$F(\"abcabc\",\"bc\"),$F(\"abcabc\",\"bc\",2),$F(\"abcabc\",\"bc\",3),$F(\"abcabc\",\"bc\",6),$F(\"abc\",\"x\"),$F(\"abc\",\"c\",-9)", "447004");
        value("$F(\"abc\",\"\"),$F(\"abc\",\"\",4),$F(\"abc\",\"\",5),$F(\"\",\"\"),$F(\"\",\"a\")", "14010");
        value("$FN(1234567.125,\",\"),\" \",$FN(-123,\",\"),\" \",$FN(1000,\",\"),\" \",$FN(.5,\",+\"),\" \",$FN(-5,\"-\"),\" \",$FN(-5,\"+\"),\" \",$FN(0,\"+-,\")",
            "1,234,567.125 -123 1,000 +.5 5 -5 0");
        value("$FN(\"12abc\",\"xyz\"),$FN(-1234,\",-\")", "121,234");
        value("$J(\"ab\",4),$J(\"abc\",2),$J(2.5,0,0),$J(-2.5,0,0),$J(.045,6,2),$J(-.004,0,2),$J(12,0,3),$J(0,3,1),$J(\"x\",3)", "  ababc3-3  0.050.0012.0000.0  x");
        value("$J(999.995,0,2),$J(1E29,0,1),$J(1E-30,0,30)", "1000.00" + "1" + "0".repeat(29) + ".0" + "0." + "0".repeat(29) + "1");
        value("$L($J(\"\",250))", "250");
        value("$J(\"\",251)", "{,M75,}");
        value("$J(1,300,2)", "{,M75,}");
        value("$J(1,2,31)", "{,M92,}");
        value("$J(1,2,-1)", "{,M92,}");
        value("$L(\"\"),$L(\"abc\"),$L(\"a,b,,c\",\",\"),$L(\"\",\",\"),$L(\"abc\",\"\"),$L(\"aaaa\",\"aa\"),$L(\"aaa\",\"aa\")", "0341032");
        value("$RE(\"abc\"),$RE(\"\"),$TR(\"hello\",\"el\",\"ip\"),$TR(\"hello\",\"l\"),$TR(\"hello\",\"lo\",\"0\"),$TR(\"aba\",\"aa\",\"xy\")", "cbahippoheohe00xbx");
        value("$S(0:1,\"1x\":2,1:1/0)", "2");
        value("$S(0:1/0,0:2)", "{,M4,}");
        value("$A(\"a\",\"1E40\")", "{,M92,}");
        value("$H,$J,$Q,$ST,$T,$TL,$TR,$X,$Y,$EC,$ET", "0,000000090");
        House h = new House();
        h.house.time(86400 * 3 + 7);
        House.due("$H", h.run("W $H"), "3,7");
        long z = 0;
        StringBuilder want = new StringBuilder();
        for (int i = 0; i < 5; i++) {
            z = z * 6364136223846793005L + 1442695040888963407L;
            want.append((z >>> 33) % 1000).append(",");
        }
        value("$R(1000),\",\",$R(1000),\",\",$R(1000),\",\",$R(1000),\",\",$R(1000),\",\"", want.toString());
        value("$R(1)", "0");
        value("$R(.9)", "{,M3,}");
        value("$QL(\"A\"),$QL(\"^A(1,\"\"x\"\")\"),$QS(\"^A(1,\"\"x\"\"\"\"y\"\")\",0),$QS(\"^A(1,\"\"x\"\"\"\"y\"\")\",2),$QS(\"A(1)\",0),$QS(\"A(1)\",-1),$QS(\"A(1)\",2)", "02^Ax\"yA");
        for (String bad : new String[] {"", "1", "A(", "A()", "A(1", "A(1)x", "A(01)", "A(\"\"1\"\")", "A(x)", "A(\"\"\"\")", "A (1)", "ABCDEFGHI", "A(1,2,3,4,5,6,7)", "@A", "^(1)"}) {
            value("$QL(\"" + bad + "\")", "{,Z3,}");
        }
        value("$QS(\"A\",\"1E99\")", "{,M92,}");
    }

    private static void pieces() {
        value("$P(\"a,b,c\",\",\"),$P(\"a,b,c\",\",\",2),$P(\"a,b,c\",\",\",2,3),$P(\"a,b,c\",\",\",4),$P(\"a,b,c\",\",\",2,1),$P(\"a,b,c\",\"\",1)", "abb,c");
        value("$P(\"a,b,c\",\",\",0),$P(\"a,b,c\",\",\",-3,2),$P(\"a,b,c\",\",\",1,99),$P(\"abc\",\",\"),$P(\"\",\",\"),$P(\"a--b--c\",\"--\",2,3)", "a,ba,b,cabcb--c");
        run("S $P(A,\",\",3)=\"x\" W A S $P(A,\",\")=1,$P(A,\",\",2,3)=\"y\" W \" \",A S $P(A,\",\",5,7)=\"z\" W \" \",A", ",,x 1,y 1,y,,,z");
        run("S A=\"a,b\" S $P(A,\",\",0)=1,$P(A,\",\",3,2)=1,$P(A,\"\",1)=1,$P(A,\",\",0,1)=\"q\" W A", "q,b");
        run("S $P(A,\",\",0)=1 W $D(A)", "0");
        run("S $P(A,\"--\",3,4)=1 W A S $P(A,\"--\",2)=2 W \" \",A", "----1 --2--1");
        run("S $P(A,\",\",252)=1", "{,M75,}");
        run("S $P(A,\",\",250)=1 W $L(A)", "250");
        run("S $P(A,\",\",2000000000)=1", "{,M75,}");
        run("S $E(A,3)=\"x\" W A,\"|\" S $E(A)=\"yz\" W A,\"|\" S $E(A,2,3)=\"\" W A,\"|\" S $E(A,9,1)=5,$E(A,-3,1)=\"w\" W A", "  x|yz x|yx|wx");
        run("S $E(A,251)=1", "{,M75,}");
        run("S $E(A,251)=\"\" W $L(A)", "250");
        run("S $E(A,250)=1 W $L(A) S $E(A,1,0)=5 W $L(A) S $E(A,250)=12", "250250{,M75,}");
        run("S A=1 S ($P(A,\",\",2),A,$P(A,\",\",3))=A+1 W A", "2,,2");
        run("S $P(A(1),\",\",$G(A(2),2))=$G(A(1),\"e\") W A(1)", ",e");
        run("S ^A(1)=1,$P(^(2),\",\",\"1E40\")=1", "{,M92,}");
    }

    private static void nodes() {
        String set = "S A=1,A(1)=2,A(-1)=3,A(\"x\",5)=4,A(10)=5,A(2.5)=6,A(\"01\")=7,A(\"X\")=8,A(1,1,1)=9 ";
        run(set + "S I=\"\" F  S I=$O(A(I)) Q:I=\"\"  W I,\" \"", "-1 1 2.5 10 01 X x ");
        run(set + "S I=\"\" F  S I=$O(A(I),-1) Q:I=\"\"  W I,\" \"", "x X 01 10 2.5 1 -1 ");
        run("S A(0)=1,A(.5)=1,A(-.5)=1,A(10)=1,A(9.5)=1,A(-10)=1,A(-9)=1,A(1E20)=1,A(.05)=1,A(\"-\")=1,A(\"00\")=1,A(\"1E5\")=1 S I=\"\" F  S I=$O(A(I)) Q:I=\"\"  W I,\" \"",
            "-10 -9 -.5 0 .05 .5 9.5 10 100000000000000000000 - 00 1E5 ");
        run(set + "W $O(A(0)),$O(A(3)),$O(A(\"a\")),$O(A(1E20)),$O(A(\"Y\"),-1),$O(A(2),-1),\"|\",$O(A(\"x\")),$O(A(-5),-1),$O(A(1,\"\")),$O(A(1,1,\"\"),-1),$O(B(\"\"))",
            "110x01X1|11");
        run(set + "S I=\"A\" F  S I=$Q(@I) Q:I=\"\"  W I,\" \"", "A(-1) A(1) A(1,1,1) A(2.5) A(10) A(\"01\") A(\"X\") A(\"x\",5) ");
        run(set + "W $Q(A(\"\")),$Q(A(1,\"\")),$Q(A(\"x\")),$Q(A(\"x\",5)),$Q(B)", "A(-1)A(1,1,1)A(\"x\",5)");
        run(set + "W $D(A),$D(A(1)),$D(A(\"x\")),$D(A(1,1)),$D(A(10)),$D(A(7)),$D(B),$D(A(\"x\",5))", "111110101001");
        run("S B=1,A=1,Ab=1,a=1,%=1,A1=1,^C(1)=1,^B=1 W $O(%),$O(A),$O(A1),$O(Ab),$O(B),$O(a),\"|\",$O(a,-1),$O(%,-1),$O(Z),$O(^A),$O(^B),$O(^C),\"|\",$O(^D,-1),$O(^B,-1)",
            "AA1AbBa|Ba^B^C|^C");
        run("S A(1)=1 K A(1) W $O(A,-1),$O(%),$D(A)", "0");
        run("W $NA(A),$NA(^A(1,\"b\",-.5,\"1.0\",\"q\"\"q\")),$NA(A(1,2,3),2),$NA(A(1),0),$NA(^A(1),5)", "A^A(1,\"b\",-.5,\"1.0\",\"q\"\"q\")A(1,2)A^A(1)");
        run("W $NA(A(1),-1)", "{,M92,}");
        run("W $O(A(1),2)", "{,M92,}");
        run("W $O(A(1),0)", "{,M92,}");
        run("S A(1)=1 W $O(A(\"\"),1.9),$O(A(\"\"),-1.9)", "11");
        run("W A", "{,M6,}");
        run("S A(1)=1 W A", "{,M6,}");
        run("W ^A(1)", "{,M7,}");
        run("W $G(A,1),$G(A),$G(A(1),\"x\")", "1x");
        run("S A=5 W $G(A,1/0),$G(B,1/0)", "5{,M9,}");
        for (String bad : new String[] {"A(\"\")", "A(\"\",1)", "A($J(1,61))", "A($J(1,60),$J(1,36))", "^ABCDEFGH($J(1,60),$J(1,29))"}) {
            run("S " + bad + "=1", "{,Z2,}");
            run("W $D(" + bad + ")", "{,Z2,}");
            run("W $NA(" + bad + ")", "{,Z2,}");
            run("L " + bad, "{,Z2,}");
        }
        run("W $D(A($J(1,60),$J(1,35))),$D(^ABCDEFGH($J(1,60),$J(1,28)))", "00");
        run("W $O(A(\"\",1))", "{,Z2,}");
        run("W $Q(A(\"\",\"\"))", "{,Z2,}");
        run("S A(1,2,3,4,5,6)=1,B=\"A(1,2,3)\" W @B@(4,5,6) S @B@(4,5,6,\"x\")=1", "1{,Z2,}");
        run("S A(\"a\")=1 W A(\"a\"),1/0_A(\"\")", "1{,M9,}");
        run("S A(\"\")=1/0", "{,M9,}");
    }

    private static void naked() {
        run("S ^A(1,2)=3,^(3)=4,^(3,1)=5 W ^A(1,3),^A(1,3,1),^(1)", "455");
        run("W ^(1)", "{,M1,}");
        run("S ^A=1 W ^(1)", "{,M1,}");
        run("S ^A(1)=1,^A=1 S ^(1)=1", "{,M1,}");
        run("S ^A(1)=1,^B(1,1)=2 S ^A(1)=^(1) W ^A(1),^(1)", "22");
        run("S ^A(1,1)=1 W $G(^A(1,5),^(1))", "1");
        run("S ^A(1,1)=1,^B(1)=7 W $D(^B(9)),^(1),$O(^A(1,\"\")),^(1),$NA(^B(5)),$NA(^(3)),$Q(^A(1,0)),^(1)", "0711^B(5)^B(3)^A(1,1)1");
        run("S ^A(1)=1 L ^B(1) W ^(1)", "1");
        run("S ^A(1)=1,^B=1 S X=$O(^A) W ^(1)", "{,M1,}");
        run("S ^A(1)=1,^B(1)=2 S X=$O(^B) W ^(1)", "2");
        run("S ^A(1)=1 W ^A(9)", "{,M7,}");
        run("S $ET=\"W ^(1) S $EC=\"\"\"\"\",^A(1)=1 X \"W ^A(9)\" W 2", "12");
        run("S ^A(1,1)=1 S ^($J(1,61))=1", "{,Z2,}");
        run("S $ET=\"W ^(1) S $EC=\"\"\"\"\",^A(1)=1 X \"W ^B(\"\"\"\")\"", "1");
        run("S ^A(1)=1 M B=^A S ^(2)=1 W $D(^A(2))", "{,M1,}");
        run("S ^A(1,1)=1 M ^B(5)=^A(1) S ^(3)=7 W ^A(3),^B(5,1)", "71");
        run("S ^A(1,1)=1 M ^B(5,5)=^(1) W $D(^B(5,1)),$D(^B(5,5))", "00");
        run("S ^A(1,1)=1 M ^B(5,1)=^A(1) K ^(1) W $D(^A(1)),$D(^B)", "010");
    }

    private static void indirection() {
        run("S A=\"B\",B=\"C\",C=5 W @A,@@A,@\"B\",@(\"B\"_\"\")", "C5CC");
        run("S A=\"B(1)\",B(1)=1,B(1,2)=2,B(1,2,3)=3 W @A,\",\",@A@(2),@A@(2,3),@\"B\"@(1)", "1,231");
        run("W @\"1\"", "1");
        run("W 0+@\"1\"", "{,Z3,}");
        run("S A=\"B C\" W 0+@A", "{,Z3,}");
        run("W 1+@\"\"", "{,Z3,}");
        run("S A=\"^G(1)\",@A=5,@A@(2)=6 W ^G(1),^(1,2),@\"^(1)\"", "56{,M7,}");
        run("S X=\"A=1,B=2\" S @X,C=3 W A,B,C", "123");
        run("S X=\"1,2,!\",Y=\"@X,3\" W @Y", "12\n3");
        run("S X=\"1,2 \" W @X", "{,Z3,}");
        run("S X=\" 1\" W @X", "{,Z3,}");
        run("S X=\"\" W @X", "{,Z3,}");
        run("S X=\"1,0\" I @X W 1", "");
        run("S X=\"1,1\" I @X W $T", "1");
        run("S A=1,B=2,C=3,X=\"A,(B)\" K @X W $D(A),$D(B),$D(C)", "010");
        run("S X=\"A,B\",A=1 N @X W $D(A) S B=2 W B", "02");
        run("S X=\"\"\"W 1\"\",\"\"W 2\"\":0,\"\"W 3\"\"\" X @X:1,@X:0", "13");
        run("S X=\"A=B\",B(1)=4 M @X W A(1)", "4");
        run("S X=\"\"\"a\"\",!,?3,Y\" R @X W Y", "a\n   ");
        run("S A=\"C\",C(5)=1,X=\"@A@(5)\" W @X,@X+1", "12");
        run("S X=\"-A\" W @X", "{,M6,}");
        run("S A(\"x y\")=1,X=$NA(A(\"x y\")) W @X,@X+1", "12");
        run("S A($C(10))=1,X=$NA(A($C(10))) W 0+@X", "1");
        run("S B=7,A(1)=\"B\" F I=2:1:25 S A(I)=\"@A(\"_(I-1)_\")\" I I=25 W 0+@A(24),0+@A(25)", "7{,Z1,}");
    }

    private static void texts() {
        String r = "F(A) ;one\n ;two\nG ;three\n";
        House.due("$TEXT", House.of(r, "W $T(F^R),\"|\",$T(+2^R),\"|\",$T(F+2^R),\"|\",$T(G^R),\"|\",$T(+0^R),$T(^R),\"|\",$T(+4^R),$T(+5^R),$T(Z^R),$T(+1^Z),$T(+0^Z),$T(F),$T(+0)"),
            "F(A) ;one| ;two|G ;three|G ;three|RF(A) ;one|");
        House.due("$TEXT", House.of(r, "W $T(+-1^R)"), "{,Z4,}");
        House.due("$TEXT", House.of(r, "W $T(+-1^Z)"), "{,Z4,}");
        House.due("$TEXT", House.of(r, "W $T(G+-1^R)"), "{,Z4,}");
        House.due("$TEXT", House.of("A W $T(A),$T(+2),$T(+0)\n W 1", "D ^R"), "A W $T(A),$T(+2),$T(+0) W 1R1");
        House.due("$TEXT", House.of("A ;" + "x".repeat(247), "W $L($T(^R))"), "250");
        House.due("$TEXT", House.of("A ;" + "x".repeat(248), "W $T(^R)"), "{,M75,}");
        House.due("$TEXT", House.of("A ;" + "x".repeat(248), "W $T(+0^R),$T(+2^R)"), "R");
    }

    /** What is in hand: 60 strings, 40 nodes. */
    private static void inHand() {
        // each level of F has three strings in hand when it calls, as many as its number of levels of N behind
        String f = "F(N) Q:N=0 0 Q 1_(2_(3_$$F(N-1)))\nG(N) Q:N=0 0 Q 1_(2_$$G(N-1))\n";
        House.due("in hand", House.of(f, "W $$F^R(15)"), "123".repeat(15) + "0");
        House.due("in hand", House.of(f, "W $$F^R(20)"), "{,Z1,}");
        House.due("levels", House.of(f, "W $L($$G^R(28))"), "57");
        House.due("levels", House.of(f, "W $$G^R(29)"), "{,Z1,}");
        String n = "F(N) S (A(1),A(2),A(3),A(4),A(5),A(6),A(7),A(8),A(9))=$S(N=0:0,1:$$F(N-1)) Q N";
        House.due("nodes", House.of(n, "S X=$$F^R(3) W X"), "3");
        House.due("nodes", House.of(n, "S X=$$F^R(4)"), "{,Z1,}");
        // twenty targets with three strings each: the value is one more
        String targets = "$P(A,1,2,3),".repeat(19);
        House.due("59 strings", House.of(" S (" + targets + "$P(A,1,2))=5 W A", "D ^R"), "15");
        House.due("60 strings", House.of(" S (" + targets + "$P(A,1,2,2))=5 W A", "D ^R"), "{,Z1,}");
        House.due("behind LOCK", House.of(" L " + "+A:0,".repeat(70) + "-A:1 W $T", "D ^R"), "1");
        House.due("behind WRITE", House.of(" W " + "?1,*65,".repeat(70) + "$X", "D ^R"), " " + "A".repeat(70) + "71");
        // nothing stays in hand behind a command
        String all = "S (A,B(1,2),$P(C(1),1,2,3),$E(D,4,5))=1_2,E=$G(F(1),3)_$G(A) K A(1),F M F(1)=B L +A(1):0,-(A(1),B):1 "
            + "H 0 I A D L^R(1,,.B) X \"W *65,?1\" S A=$$F^R(2,.B),@\"G(1)\"=$O(A(1),1)_$NA(B(1),1) W:I=99 $G(C(1))";
        House.due("nothing stays", House.of("L(A,B,C) Q\nF(A,B) Q A\nM F I=1:1:99 " + all, "D M^R"),
            "A".repeat(99) + "112");
    }
}

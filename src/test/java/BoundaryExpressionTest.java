/** Part 4 at its edges: operators, patterns, nodes that are met, functions. */
public final class BoundaryExpressionTest extends Boundary {
    public static void main(String[] args) {
        operators();
        powers();
        comparisons();
        patterns();
        values();
        naked();
        indirection();
        wholes();
        bytes();
        finds();
        formats();
        namesAndOrders();
        pieces();
        texts();
        specials();
        extrinsics();
        House.report();
    }

    private static void operators() {
        says("ATOMS and operators are worked from the left, arguments before what has them");
        values("1+2*3", "9", "2*3+1", "7", "10-5-2", "3", "1_2+3", "15", "2**3**2", "64", "-2**2", "4", "1+(2*3)", "7", "'1+1", "1", "'(1+1)", "0", "1'=2+1", "2", "1<2<3", "1", "3>2>1", "0");
        says("+ - ' of an ATOM: its number; that turned; 1 if it is not TRUE, else 0");
        values("+`3x`", "3", "-`3x`", "-3", "--3", "3", "-0", "0", "-`x`", "0", "'0", "1", "'5", "0", "''5", "1", "'``", "1", "-'0", "-1", "+`1E30`", "{,M92,}", "'`1E30`", "{,M92,}");
        says("_: both strings together (more than 250 bytes: error M75)");
        values("$L($J(1,249)_1)", "250", "$J(1,249)_12", "{,M75,}", "$L($J(1,250)_``)", "250", "$J(1,250)_0", "{,M75,}", "``_``_`a`", "a");
        says("/ rounds the exact quotient");
        values("1/4", ".25", "2/3", ".666666666666666667", "1/3", ".333333333333333333", "-1/6", "-.166666666666666667", "1/7*7", ".999999999999999999", "1E29/1E-29", "{,M92,}", "1E-30/1E29", "0", "6/3", "2", "0/5", "0", "999999999999999999/2", "500000000000000000");
        says("\\: the exact quotient cut to a whole number (toward 0), FITTED");
        values("7\\2", "3", "-7\\2", "-3", "7\\-2", "-3", "-7\\-2", "3", "6\\3", "2", ".9\\1", "0", "-.9\\1", "0", "1E29\\.3", "333333333333333333000000000000", "2E29\\.3", "666666666666666667000000000000", "1\\1E-29", "1" + "0".repeat(29), "1\\1E-30", "{,M92,}",
            "1.5\\.5", "3", "1E-30\\1E29", "0", "3\\.4", "7");
        says("#: a less b times the greatest whole number not above a / b");
        values("7#3", "1", "-7#3", "2", "7#-3", "-2", "-7#-3", "-1", "6#3", "0", "-6#3", "0", "6#-3", "0", "5#.3", ".2", "-.1#1", ".9", ".1#-1", "-.9", "2#5", "2", "-2#5", "3", "2#-5", "-3", "0#5", "0", "1E29#7", "5", "1E-30#1", "." + "0".repeat(29) + "1",
            "-1E-30#1", "1", "1E-30#-1", "-1");
        says("By 0: error M9");
        values("1/0", "{,M9,}", "0/0", "{,M9,}", "1\\0", "{,M9,}", "1#0", "{,M9,}", "1/`x`", "{,M9,}", "1\\``", "{,M9,}", "1#`4E-31`", "{,M9,}", "`1E30`/0", "{,M92,}", "0/`1E30`", "{,M92,}");
    }

    private static void powers() {
        says("**: the second one a whole number -100 .. 100 (else M92)");
        values("1**100", "1", "1**101", "{,M92,}", "1**-100", "1", "1**-101", "{,M92,}", "2**.5", "{,M92,}", "2**-.5", "{,M92,}", "2**`x`", "1", "2**1.0", "2", "2**1000", "{,M92,}", "2**1E29", "{,M92,}", "1**`1E30`", "{,M92,}", "2**-1E-30", "{,M92,}", "0**101", "{,M92,}", "1**110", "{,M92,}",
            "-1**99", "-1", "-1**100", "1", "-1**-99", "-1", "2**10", "1024", "1**20", "1");
        says("1 times the first one so many times, FITTED each time");
        values("0**0", "1", "5**0", "1", "0**5", "0", "10**29", "1" + "0".repeat(29), "10**30", "{,M92,}", "-10**29", "-1" + "0".repeat(29), ".1**30", "." + "0".repeat(29) + "1", ".1**31", "0", "1.5**2", "2.25", "3**40", "12157665459056928800", "7**1", "7");
        says("below 0: 1 / that of the positive one");
        values("2**-2", ".25", "0**-1", "{,M9,}", ".1**-29", "1" + "0".repeat(29), ".1**-30", "{,M92,}", ".1**-31", "{,M9,}", "10**-29", "." + "0".repeat(28) + "1", "10**-30", "{,M92,}", "3**-1", ".333333333333333333", "-2**-3", "-.125");
    }

    private static void comparisons() {
        says("=: the same bytes");
        values("1=1", "1", "1=`1`", "1", "1=1.0", "1", "1=`1.0`", "0", "``=``", "1", "``=0", "0", "`a`=`A`", "0", "`a`=`a `", "0", "`a `=`a`", "0", "`1E30`=`1E30`", "1", "1'=1", "0", "1'=2", "1");
        says("< >: of numbers");
        values("1<1", "0", "1>1", "0", "1<2", "1", "2<1", "0", "2>1", "1", "`a`<1", "1", "``<0", "0", "-1<0", "1", "-2<-1", "1", "-1>-2", "1", "10>9", "1", "`10`>`9x`", "1", ".1<.11", "1", "-.1<-.11", "0", "1E-30>0", "1", "0>-1E-30", "1", "1E29>999999999999999999E11", "1",
            "1'<1", "1", "1'>1", "1", "`1E30`<1", "{,M92,}", "1>`1E30`", "{,M92,}", "0<0", "0", "0>0", "0");
        says("[: the second one stands somewhere in the first");
        values("`abc`[`a`", "1", "`abc`[`c`", "1", "`abc`[`abc`", "1", "`abc`[`abcd`", "0", "`abc`[``", "1", "``[``", "1", "``[`a`", "0", "`abc`[`ac`", "0", "`aab`[`ab`", "1", "`abc`'[`b`", "0", "`abc`'[`x`", "1");
        says("]: the first one's bytes are behind the second one's (by bytes, one that begins the other before)");
        values("`b`]`a`", "1", "`a`]`b`", "0", "`a`]`a`", "0", "`ab`]`a`", "1", "`a`]`ab`", "0", "`a`]``", "1", "``]``", "0", "``]`a`", "0", "10]9", "0", "9]10", "1", "$C(128)]$C(127)", "1", "$C(255)]$C(0)", "1", "`a`']`a`", "1", "`b`']`a`", "0");
        says("]]: behind in the ORDER of subscripts (of two empty ones none; the empty one first)");
        values("``]]``", "0", "`a`]]``", "1", "``]]`a`", "0", "1]]``", "1", "-1]]``", "1", "``]]-1", "0", "``']]``", "1", "10]]9", "1", "9]]10", "0", "`a`]]9", "1", "9]]`a`", "0", "1]]1", "0", "-1]]-2", "1", "`1.0`]]2", "1", "`a`']]`a`", "1");
        says("& !: of TRUE ones");
        values("1&1", "1", "1&0", "0", "0&1", "0", "0&0", "0", "1!1", "1", "1!0", "1", "0!1", "1", "0!0", "0", "2&`3x`", "1", "-1&.1", "1", "``!`x`", "0", "1'&1", "0", "1'&0", "1", "0'!0", "1", "0'!1", "0", "0&`1E30`", "{,M92,}", "1!`1E30`", "{,M92,}");
        run("F S ^A=$G(^A)_1 Q 1", "W 0&$$F^R,1!$$F^R,^A", "0111");
    }

    private static void patterns() {
        says("a byte of one of its CODES (A letters, C 0 .. 31 and 127, E any, L small letters, N digits, P 32 .. 126 that are no letters and digits, U capitals)");
        for (char code : "ACELNPU".toCharArray()) {
            StringBuilder want = new StringBuilder();
            for (int c = 0; c < 256; c++) {
                boolean small = c >= 'a' && c <= 'z', capital = c >= 'A' && c <= 'Z', digit = c >= '0' && c <= '9', other = c >= 32 && c <= 126 && !small && !capital && !digit;
                boolean is = code == 'A' ? small || capital : code == 'C' ? c < 32 || c == 127 : code == 'E' || (code == 'L' ? small : code == 'N' ? digit : code == 'P' ? other : capital);
                want.append(is ? 1 : 0);
            }
            run("F I=0:1:255 W $C(I)?1" + code, want.toString());
            run("F I=0:1:255 W $C(I)?1" + Character.toLowerCase(code), want.toString());
        }
        values("`a1`?2AN", "1", "`a1-`?2AN1P", "1", "`a`?1NP", "0");
        says("COUNT times (n: n; n.m: n to m; n.: n or more; .m: up to m; . any)");
        values("`aa`?1A", "0", "`aa`?2A", "1", "`aa`?3A", "0", "``?0A", "1", "`a`?0A", "0", "`a`?2.3A", "0", "`aa`?2.3A", "1", "`aaa`?2.3A", "1", "`aaaa`?2.3A", "0", "`a`?2.A", "0", "`aa`?2.A", "1", "$J(``,250)?2.P", "1", "$J(``,250)?.250P", "1", "$J(``,250)?.249P", "0",
            "$J(``,250)?250P", "1", "$J(``,250)?251.P", "0", "``?.2A", "1", "`aa`?.2A", "1", "`aaa`?.2A", "0", "``?.A", "1", "$J(``,250)?.P", "1", "`a1`?.A", "0", "``?0.0A", "1", "``?3.2A", "0", "`aa`?3.1A", "0", "``?1.A", "0", "``?1A", "0", "$J(``,250)?999P", "0", "$J(``,250)?.999P", "1");
        says("its STRING");
        values("`abab`?2`ab`", "1", "`aba`?2`ab`", "0", "``?.`ab`", "1", "``?0`ab`", "1", "``?1``", "1", "``?999``", "1", "`a`?1``", "0", "`x``y`?1`x``y`", "1", "`ab`?1`a`1`b`", "1", "`aaa`?1.2`a`", "0", "``?3.2``", "0", "$J(``,250)?1`" + " ".repeat(225) + "`", "0",
            "$J(``,120)?1`" + " ".repeat(120) + "`", "1", "$J(``,240)?2`" + " ".repeat(120) + "`", "1", "$J(``,120)?2`" + " ".repeat(120) + "`", "0", "$J(``,64)?1`" + " ".repeat(64) + "`", "1", "$J(``,128)?1`" + " ".repeat(64) + "`", "0", "$J(``,128)?2`" + " ".repeat(64) + "`", "1", "$J(``,192)?3`" + " ".repeat(64) + "`", "1", "$J(``,192)?2`" + " ".repeat(64) + "`", "0",
            "$J(``,128)?1`" + " ".repeat(128) + "`", "1", "$J(``,192)?1`" + " ".repeat(128) + "`", "0", "$J(``,192)?1`" + " ".repeat(192) + "`", "1", "$J(``,65)?1`" + " ".repeat(65) + "`", "1", "$J(``,63)?1`" + " ".repeat(63) + "`", "1", "$J(``,126)?2`" + " ".repeat(63) + "`", "1", "$J(``,130)?2`" + " ".repeat(65) + "`", "1", "$J(``,129)?2`" + " ".repeat(65) + "`", "0");
        says("or what one of its choices fits");
        values("`a1`?2(1A,1N)", "1", "`a-`?2(1A,1N)", "0", "``?0(1A)", "1", "``?.(1A)", "1", "``?1(1A,.N)", "1", "`ab1`?1(2A,1N)1N", "1", "`abc`?2(1A,2A)", "1", "`a`?2(1A,2A)", "0", "`abcd`?2(1A,2A)", "1", "`abcde`?2(1A,2A)", "0", "`aab`?.(1`aa`,1`ab`)", "0", "`aaab`?.(1`aa`,1`ab`)", "1",
            "``?999(.A)", "1", "`a`?999(.A)", "1", "``?3.2(.A)", "0", "`aa`?1.1(1A)", "0", "$J(``,250)?.(2P,3P)", "1", "$J(``,250)?125(2P)", "1", "$J(``,249)?125(2P)", "0", "$J(``,250)?249(1P,2P)", "1");
        says("a row of pieces, one for each part in order");
        values("`a1`?1A1N", "1", "`1a`?1A1N", "0", "`aa`?1A1N", "0", "`ac`?1A1`b`", "0", "`bb`?1`b`1N", "0", "`ab`?1`a`1`c`", "0", "`aab`?2A1`c`", "0", "$J(`a`,250)?249P1A", "1", "$J(`a`,250)?249P1N", "0", "$J(`a`,250)?249P1`a`", "1", "$J(`a`,250)?249P1`b`", "0", "$J(`a`,250)?250P", "0", "$J(``,250)?249P1N", "0", "$J(``,250)?249P1`x`", "0", "$J(``,250)?249P1(1N)", "0", "$J(``,250)?249.250(1P)1(1N)", "0", "$J(``,10)?9.10(1P)1(1N)", "0", "$J(``,250)?249.250(1P).(1N)", "1", "$J(``,250)?1.(1P)1(1`x`)", "0", "$J(``,100)?99.100(1P)1(1N)", "0", "$J(``,150)?149.150(1P)1(1N)", "0", "$J(`a`,200)?199P.A", "1", "$J(`a`,200)?199P.N", "0", "$J(``,250)?250P3.2``", "0", "$J(``,250)?250P2``", "1",
            "$J(`a`,250)?.(1P,1A).(1N)", "1", "$J(`a`,250)?.(1P)1(1N,1A)", "1", "$J(`a`,250)?.(1P)1(1N,1C)", "0", "$J(`a`,250)?.P.(1A)", "1", "$J(`a`,250)?249.250P1(1A)", "1", "$J(`a`,250)?.P1.2(1`a`,1N)", "1", "$J(`a`,250)?.P2.(1`a`,1N)", "0", "`a`?.(1A)1(1N)", "0", "`ab`?1(1A)1(1N)", "0", "`a1`?1(1A,1N)1(1N)", "1", "`aaa1`?.A1A1N", "1", "`aab`?.A1`b`", "1", "`abb`?.A1`b`1`b`", "1", "``?.A.N", "1");
        says("The text behind ? @ is a pattern, else error Z3");
        runs("S P=`1A` W `a`?@P,`1`?@P,`a`'?@P", "100", "W `a`?@`1A`", "1", "S P=`.(1A,1N)` W `a1`?@P", "1");
        for (String bad : new String[] {"``", "`A`", "`1`", "`1A `", "` 1A`", "`1A,`", "`1(1A`", "`@P`", "`1Q`", "`1234A`", "`1A`_$C(10)", "`1A_1`"}) runs("S P=" + bad + " W `a`?@P", "{,Z3,}");
    }

    private static void values() {
        says("REF as a value: the node's value; none: error M6 (locals), M7 (globals)");
        runs("S A=`` W `[`,A,`]`", "[]", "W A", "{,M6,}", "W A(1)", "{,M6,}", "S A(1)=1 W A", "{,M6,}", "S A=1 W A(1)", "{,M6,}", "W ^A", "{,M7,}", "W ^A(1)", "{,M7,}", "S ^A(1)=1 W ^A", "{,M7,}", "S ^A=1 W ^(1)", "{,M1,}", "S ^A(1)=1 W ^(2)", "{,M7,}", "S X=`A` W @X,1", "{,M6,}",
            "S X=`^A` W 1_@X", "{,M7,}", "S A=1 N A W A", "{,M6,}");
        says("$GET: the value; else the second one (empty without; worked out only then)");
        runs("S ^A(2)=5,A(2)=6 W 1_^A(2),2_A(2),3_$G(^A(2),7),4_$G(^A(3),7)", "15263547", "S A(1)=1,A(2)=1 W 1_$O(A(0),1),2_$NA(A(1),1),3_$D(A(1)),4_$Q(A(1)),5_$O(A(1)),6_$O(A(9),-1),7_$QS(`A(8)`,1)", "112A(1)314A(2)526278",
            "S A=5 W $G(A),$G(A,6),$G(B),`|`,$G(B,6),$G(A,1/0)", "55|65", "W $G(B,1/0)", "{,M9,}", "S A=`` W `[`,$G(A,1),`]`", "[]", "S A(1)=1 W $G(A,7)", "7", "W $G(^A,$G(^B,`x`))", "x", "W $L($G(A,$J(1,250)))", "250");
        says("$DATA: DATA");
        runs("S A(1)=1,B=1,C=1,C(1)=1 W $D(A),`,`,$D(B),`,`,$D(C),`,`,$D(D),`,`,$D(A(1)),`,`,$D(A(1,1))", "10,1,11,0,1,0");
    }

    private static void naked() {
        says("error M1 if there is none, or that had no subscripts");
        runs("W ^(1)", "{,M1,}", "S ^(1)=1", "{,M1,}", "K ^(1)", "{,M1,}", "S X=$D(^(1))", "{,M1,}", "S X=$O(^(``))", "{,M1,}", "S X=$NA(^(1))", "{,M1,}", "L ^(1)", "{,M1,}", "M A=^(1)", "{,M1,}", "S ^A=1,^(1)=1", "{,M1,}", "S ^A(1)=1,^A=1,^(1)=1", "{,M1,}", "S ^A(1)=1,X=$D(^B),^(1)=1", "{,M1,}");
        House h = house("S ^A(1)=1", "W ^(1)");
        turns(h, 9);
        due("of another process", h.code(1), ",M1,");
        h = new House();
        h.save("R", "J W ^(1)");
        h.process("S ^A(1)=1 J J^R");
        turns(h, 9);
        due("of a JOB", h.code(1), ",M1,");
        says("the node that was last met as a global in this process (in whatever way) without its last subscript, and these behind");
        runs("S ^A(1)=1,^(2,3)=2,^(4)=3,X=`^A` F  S X=$Q(@X) Q:X=``  W X", "^A(1)^A(2,3)^A(2,4)", "S ^A(1,1)=1 W $D(^A(5,5)),$NA(^(6))", "0^A(5,6)", "S ^A(1,1)=1 W $G(^A(5,5)),$NA(^(6))", "^A(5,6)", "S ^A(1,1)=1 W $O(^A(5,5)),$NA(^(6))", "^A(5,6)",
            "S ^A(1,1)=1 W $O(^A(5,``)),$NA(^(6))", "^A(5,6)", "S ^A(1,1)=1 W $Q(^A(5,5)),$NA(^(6))", "^A(5,6)", "S ^A(1,1)=1 W $NA(^A(5,5)),$NA(^(6))", "^A(5,5)^A(5,6)", "S ^A(1,1)=1 K ^A(5,5) W $NA(^(6))", "^A(5,6)", "S ^A(1,1)=1 M B=^A(5,5) W $NA(^(6))", "^A(5,6)",
            "S ^A(1,1)=1 M ^A(5,5)=B W $NA(^(6))", "^A(5,6)", "S ^A(1,1)=1,$P(^A(5,5),1,0)=7 W $NA(^(6))", "^A(5,6)", "S ^A(1,1)=1,X=`^A(5,5)`,Y=$D(@X) W $NA(^(6))", "^A(5,6)", "S ^A(1,1)=1 L ^B(5,5) W $NA(^(6))", "^A(1,6)", "S ^A(1,1)=1 W $O(^B),$NA(^(6))", "^A(1,6)",
            "S ^A(1,1)=1 X `S X=$D(^A(5,5))` W $NA(^(6))", "^A(5,6)", "S ^A(1,1)=1 TS  S ^A(5,5)=1 TRO  W $NA(^(6))", "^A(5,6)");
        says("A node is MET when what has it is done, all its arguments being worked out: a SET's target when it is set");
        runs("S ^A(1)=1,^B(1,1)=^(1),^(2)=5 W ^B(1,2)", "5", "S ^A(1)=1 S (^B(1,1),^(2))=3 W ^B(1,2)", "3", "S ^A(7)=1,^B(1,1)=2 S ^A(^(1))=^(1) W ^A(2)", "2", "S ^A(1,1)=2 W $O(^A(2,0),$D(^A(3,3))+1),$NA(^(9))", "^A(2,9)", "S ^A(1)=1 S ^(2)=$D(^B(5,5)) W $D(^B(5,2)),$D(^A(2))", "10",
            "S ^A(1,1)=1 W $NA(^B(7,7),$D(^A(3,3))+2),$NA(^(9))", "^B(7,7)^B(7,9)");
        says("($GET's before its second one, a READ's when its line comes)");
        runs("S ^A(5,2)=7 W $G(^A(5,1),^(2))", "7", "S ^A(1)=1 W $G(^B(5,5),$NA(^(6)))", "^B(5,6)");
        h = house("S ^A(1)=1 R ^(3):$D(^B(5,5))+9 W $NA(^(9))");
        turns(h, 9);
        h.tell(0, "x");
        turns(h, 9);
        due("READ", h.written(0) + h.look(0, "^B(5,3)", 0), "^B(5,9)x");
        h = house("R ^(3)", "R A(``)");
        turns(h, 9);
        due("it waits", h.house.state(0, 0) + h.house.state(1, 0), 6);
        h.tell(0, "");
        h.tell(1, "");
        turns(h, 9);
        due("then", h.code(0) + h.code(1), ",M1,,Z2,");
        says("a NAKED one is made out then (M1 before Z2); what is Z2 is not met");
        runs("S ^(``)=1", "{,M1,}", "S ^($J(1,61))=1", "{,M1,}", "S ^A=1,^(``)=1", "{,M1,}", "S ^A(1)=1,^(``)=1", "{,Z2,}", "S $ET=`S $EC=```` W $NA(^(2))`,^A(1)=1,^B(``)=1", "^A(2)", "S $ET=`S $EC=```` W $NA(^(2))`,^A(1)=1,^(7,``)=1", "^A(2)");
        says("(One without a value is met, too, by whatever asks for it.)");
        runs("S $ET=`S $EC=```` W $NA(^(2))`,^A(1)=1 W ^B(5,5)", "^B(5,2)", "K ^B(5,5) W $NA(^(2))", "^B(5,2)", "M A=^B(5,5) W $NA(^(2))", "^B(5,2)");
    }

    private static void indirection() {
        says("the text of the ATOM is a REF (or, with @ ( behind it, its subscripts come behind those), else error Z3");
        runs("S A=`B`,B=5 W 0+@A,@A@(1)", "5{,M6,}", "S A=`B(1)`,B(1,2,3)=5 W @A@(2,3)", "5", "S A=`^B(1)`,@A@(2)=5,@A=6 W ^B(1,2),^B(1)", "56", "S A=`@B`,B=`C`,C=5 W 0+@A", "5", "S A=`@B@(2)`,B=`C(1)`,C(1,2,3)=5 W @A@(3)", "5", "S ^A(1)=1,A=`^(1)` W 0+@A", "1",
            "S A=`^(1)`,^B(2,1,7)=8,^B(2,1)=5 W @A@(7)", "8");
        for (String bad : new String[] {"``", "`1`", "`B `", "` B`", "`B,C`", "`B=1`", "`B(`", "`B()`", "`B(1)(2)`", "`$X`", "`-B`", "`B+1`", "`(B)`", "`.B`", "`^`", "`ABCDEFGHI`", "`B(1,2,3,4,5,6,7)`", "`B`_$C(10)", "`@`", "`B@(1)`"}) {
            runs("S B=1,A=" + bad + " W 0+@A", "{,Z3,}", "S B=1,A=" + bad + " W @A@(1)", "{,Z3,}", "S B=1,A=" + bad + ",@A=1", "{,Z3,}");
        }
        runs("S A=`B($J(1,61))` W 0+@A", "{,Z2,}", "S A=`B(1/0)` W 0+@A", "{,M9,}");
        says("a text that can't be");
        runs("S A=`B(1)`,B(1)=1 W 0+@A@(``)", "{,Z2,}");
    }

    private static void wholes() {
        says("A whole number is wanted of e below: it is cut toward 0, and to -2000000000 .. 2000000000");
        values("$E(`abc`,1.9)", "a", "$E(`abc`,-.9,1.9)", "a", "$E(`abc`,`2x`)", "b", "$E(`abc`,-3E9,3E9)", "abc", "$E(`abc`,1E29)", "", "$P(`a,b`,`,`,1.9)", "a", "$P(`a,b`,`,`,-3E9,3E9)", "a,b", "$A(`a`,3E9)", "-1", "$A(`a`,-3E9)", "-1", "$C(65.9)", "A", "$C(-.9)", "\0", "$C(3E9,-3E9,1E29)", "",
            "$F(`ab`,`b`,-3E9)", "3", "$F(`ab`,`b`,3E9)", "0", "$J(1,3E9)", "{,M75,}", "$J(1,-3E9)", "1", "$J(1.25,0,1.9)", "1.3", "$NA(A(1),.9)", "A", "$NA(A(1),-.9)", "A", "$NA(A(1),3E9)", "A(1)", "$QS(`A(1)`,1.9)", "1", "$QS(`A(1)`,3E9)", "", "$QS(`A(1)`,-3E9)", "", "$R(1.9)", "0", "$R(-3E9)", "{,M3,}");
        values("$E(`abc`,1,11E20)", "abc", "$E(`abc`,1,97E25)", "abc", "$E(`abc`,1,999999999999999999)", "abc", "$E(`abc`,1E-20)", "", "$E(`abc`,1E-19)", "", "$E(`abc`,-1E-30,2)", "ab", "$E(`abc`,.999999999999999999)", "", "$E(`abc`,1.99999999999999999)", "a");
        long z = 0, want = -1;
        int draws = 0;
        while (want < 2000000000L) {
            z = z * 6364136223846793005L + 1442695040888963407L;
            want = z >>> 33;
            draws++;
        }
        run("F I=1:1:" + draws + " S X=$R(3E9) I I=" + draws + " W X", Long.toString(want % 2000000000L));
        House h = house("H 3E9 W 1", "H 1E29 W 1", "H 2000000000 W 1", "H 1999999999 W 1", "H 15E8 W 1", "H 1000000001 W 1");
        turns(h, 20);
        int[] seconds = {1000000000, 1000000001, 1499999999, 1500000000, 1999999998, 1999999999, 2000000000};
        String[] on = {"", "1", "1", "11", "11", "111", "111111"};
        for (int i = 0; i < seconds.length; i++) {
            h.house.time(seconds[i]);
            turns(h, 60);
            StringBuilder written = new StringBuilder();
            for (int p = 0; p < 6; p++) written.append(h.written(p));
            due("on at " + seconds[i], written.toString(), on[i]);
        }
        runs("W ?3E9,$X", "0", "W *3E9,$X", "0", "D +3E9^R", "{,M13,}", "W $T(+3E9^R)", "", "D +-3E9^R", "{,Z4,}");
        run("A W 1\nB W 2", "D +1.9^R D A+.9^R D A+-.9^R", "121212");
        says("it is read, M92, before anything else is done with arguments");
        runs("W $R(`1E30`)", "{,M92,}", "W $O(A(``,1),`1E30`)", "{,M92,}", "W $NA(A(``),`1E30`)", "{,M92,}", "W $QS(`(`,`1E30`)", "{,M92,}", "H `1E30`", "{,M92,}", "R X:`1E30`", "{,M92,}", "R X(``):`1E30`", "{,M92,}", "L A(``):`1E30`", "{,M92,}", "W *`1E30`", "{,M92,}", "W ?`1E30`", "{,M92,}",
            "D +`1E30`^R", "{,M92,}", "W $T(+`1E30`^R)", "{,M92,}", "S $P(A(``),1,`1E30`)=1", "{,M92,}", "S $E(A(``),1,`1E30`)=1", "{,M92,}", "W $J(1,999,`1E30`)", "{,M92,}", "W $C(65,`1E30`)", "{,M92,}", "W $A(``,`1E30`)", "{,M92,}", "W $E(``,1,`1E30`)", "{,M92,}", "W $P(``,``,1,`1E30`)", "{,M92,}",
            "W $F(``,``,`1E30`)", "{,M92,}", "S ^B(1)=1,$ET=`S $EC=```` W $NA(^(2))` W $O(^A(1),`1E30`)", "^B(2)", "L B S $ET=`R X` L A:`1E30`", "{,M92,}");
    }

    private static void bytes() {
        says("$ASCII(s,n): the byte at n (1 without); -1");
        values("$A(`AB`)", "65", "$A(`AB`,1)", "65", "$A(`AB`,2)", "66", "$A(`AB`,3)", "-1", "$A(`AB`,0)", "-1", "$A(`AB`,-1)", "-1", "$A(``)", "-1", "$A($C(0))", "0", "$A($C(255))", "255");
        says("$CHAR: bytes for each n that is 0 .. 255, nothing for others");
        values("$L($C(0))", "1", "$L($C(255))", "1", "$L($C(256))", "0", "$L($C(-1))", "0", "$C(65,-1,66,256,67)", "ABC", "$L($C(1,2,3,4,5,6,7,8,9,10,11,12,13,14,15,16,17,18,19,20))", "20", "$A($C(254))", "254");
        says("$EXTRACT(s,n,m): bytes n (1) to m (n), cut to what there is");
        values("$E(`abc`)", "a", "$E(``)", "", "$E(`abc`,1)", "a", "$E(`abc`,3)", "c", "$E(`abc`,4)", "", "$E(`abc`,0)", "", "$E(`abc`,-1)", "", "$E(`abc`,1,3)", "abc", "$E(`abc`,0,4)", "abc", "$E(`abc`,2,2)", "b", "$E(`abc`,3,2)", "", "$E(`abc`,-5,0)", "", "$E(`abc`,-5,1)", "a", "$E(`abc`,3,9)", "c", "$E(`abc`,4,9)", "");
        says("$REVERSE");
        values("$RE(``)", "", "$RE(`a`)", "a", "$RE(`abc`)", "cba", "$L($RE($J(1,250)))", "250", "$E($RE($J(1,250)),1,2)", "1 ");
        says("$TRANSLATE(s,t,u): each byte of s that is in t (its first place there) becomes that of u at this place, or goes");
        values("$TR(`abc`,`b`,`x`)", "axc", "$TR(`abc`,`b`)", "ac", "$TR(`abc`,`b`,``)", "ac", "$TR(`abc`,``,`x`)", "abc", "$TR(``,`a`,`b`)", "", "$TR(`abca`,`ac`,`x`)", "xbx", "$TR(`aba`,`aa`,`xy`)", "xbx", "$TR(`abc`,`ab`,`ba`)", "bac", "$TR(`abc`,`abc`,`xyzw`)", "xyz", "$TR(`aba`,`aab`,`xyz`)", "xzx");
        says("$LENGTH(s): its bytes; (s,t): 1 and how often t stands in it, from the left, none over another; 0 with t empty");
        values("$L(``)", "0", "$L(`a`)", "1", "$L(`a,b`,`,`)", "2", "$L(``,`,`)", "1", "$L(`,`,`,`)", "2", "$L(`abc`,`x`)", "1", "$L(`aaa`,`aa`)", "2", "$L(`aaaa`,`aa`)", "3", "$L(`abc`,``)", "0", "$L(``,``)", "0", "$L(`ab`,`abc`)", "1", "$L($J(``,250),` `)", "251");
    }

    private static void finds() {
        says("$FIND(s,t,n): the place behind the first t in s that begins at n (1; at least 1) or behind it; 0");
        values("$F(`abab`,`ab`)", "3", "$F(`abab`,`ab`,1)", "3", "$F(`abab`,`ab`,2)", "5", "$F(`abab`,`ab`,3)", "5", "$F(`abab`,`ab`,4)", "0", "$F(`abab`,`ab`,0)", "3", "$F(`abab`,`ab`,-7)", "3", "$F(`abab`,`x`)", "0", "$F(`ab`,`abc`)", "0", "$F(``,`a`)", "0", "$F(`abc`,`c`)", "4", "$F(`abc`,`c`,4)", "0", "$F(`aaa`,`aa`,2)", "4");
        says("With t empty: n, if it is not above the length and 1, else 0");
        values("$F(`abc`,``)", "1", "$F(`abc`,``,3)", "3", "$F(`abc`,``,4)", "4", "$F(`abc`,``,5)", "0", "$F(``,``)", "1", "$F(``,``,2)", "0", "$F(`abc`,``,0)", "1", "$F(`abc`,``,-3)", "1", "$F($J(``,250),``,251)", "251", "$F($J(``,250),``,252)", "0");
        says("$RANDOM(n): error M3 below 1");
        values("$R(1)", "0", "$R(0)", "{,M3,}", "$R(-1)", "{,M3,}", "$R(.99)", "{,M3,}", "$R(``)", "{,M3,}");
        long z = 0;
        StringBuilder want = new StringBuilder();
        for (int n : new int[] {2, 10, 2000000000, 3}) {
            z = z * 6364136223846793005L + 1442695040888963407L;
            want.append((z >>> 33) % n).append(' ');
        }
        run("W $R(2),` `,$R(10),` `,$R(2000000000),` `,$R(3),` `", want.toString());
        says("a stream for $RANDOM: z is its number at first");
        House h = house("", "", "W $R(1000000)");
        turns(h, 9);
        due("of number 2", h.written(2), Long.toString((2 * 6364136223846793005L + 1442695040888963407L >>> 33) % 1000000));
        says("$SELECT: the first e behind a TRUE one (no other is worked); none: M4");
        values("$S(1:2)", "2", "$S(0:2)", "{,M4,}", "$S(0:1/0,1:3,1/0:1/0)", "3", "$S(0:1,0:2,`1x`:3)", "3", "$S(1:1/0)", "{,M9,}", "$S(``:1,0:2)", "{,M4,}", "1_$S(0:1)", "{,M4,}");
    }

    private static void formats() {
        says("$FNUMBER(x,c): , (a comma before each three digits of the whole part, from its end)");
        values("$FN(1,`,`)", "1", "$FN(12,`,`)", "12", "$FN(999,`,`)", "999", "$FN(1000,`,`)", "1,000", "$FN(999999,`,`)", "999,999", "$FN(1000000,`,`)", "1,000,000", "$FN(-123,`,`)", "-123", "$FN(-1234,`,`)", "-1,234", "$FN(.12345,`,`)", ".12345", "$FN(1234.56789,`,`)", "1,234.56789", "$FN(0,`,`)", "0",
            "$FN(1E29,`,`)", "100,000,000,000,000,000,000,000,000,000", "$FN(-.5,`,`)", "-.5");
        says("+ (a + before it if it is above 0), - (no - before it); other bytes of c are nothing");
        values("$FN(5,`+`)", "+5", "$FN(0,`+`)", "0", "$FN(-5,`+`)", "-5", "$FN(-5,`-`)", "5", "$FN(5,`-`)", "5", "$FN(-5,`+-`)", "5", "$FN(5,`-+`)", "+5", "$FN(1000,`+,`)", "+1,000", "$FN(-1000,`,-`)", "1,000", "$FN(5,``)", "5", "$FN(5,`PTxyz()`)", "5", "$FN(.5,`+`)", "+.5", "$FN(`007x`,``)", "7", "$FN(1000,`,,`)", "1,000", "$FN(`x`,`+`)", "0", "$FN(`1E30`,``)", "{,M92,}");
        says("$JUSTIFY(s,n): blanks before it up to n bytes (if any come, n above 250: M75)");
        values("$J(`ab`,3)", " ab", "$J(`ab`,2)", "ab", "$J(`ab`,1)", "ab", "$J(`ab`,0)", "ab", "$J(`ab`,-1)", "ab", "$J(``,0)", "", "$L($J(``,250))", "250", "$J(``,251)", "{,M75,}", "$J($J(1,250),251)", "{,M75,}", "$L($J($J(1,250),250))", "250", "$J(1,251,2)", "{,M75,}", "$L($J(1,250,2))", "250", "$J(`x`,1)", "x");
        says("with m (0 .. 30, else M92): the number rounded to m digits behind the point, all of them written, a 0 before the point where no digit is");
        values("$J(1,0,0)", "1", "$J(1,0,30)", "1." + "0".repeat(30), "$J(1,0,31)", "{,M92,}", "$J(1,0,-1)", "{,M92,}", "$J(1,0,-.9)", "1", "$J(1,251,31)", "{,M92,}", "$J(.5,0,0)", "1", "$J(.4,0,0)", "0", "$J(-.5,0,0)", "-1", "$J(-.4,0,0)", "0", "$J(1.5,0,0)", "2", "$J(2.5,0,0)", "3", "$J(-2.5,0,0)", "-3",
            "$J(1.005,0,2)", "1.01", "$J(1.004,0,2)", "1.00", "$J(-.004,0,2)", "0.00", "$J(-.005,0,2)", "-0.01", "$J(.5,0,1)", "0.5", "$J(-.5,0,2)", "-0.50", "$J(0,0,2)", "0.00", "$J(99.95,0,1)", "100.0", "$J(.095,6,2)", "  0.10", "$J(`x`,0,1)", "0.0", "$J(1E-30,0,30)", "0." + "0".repeat(29) + "1", "$J(1E-30,0,29)", "0." + "0".repeat(29),
            "$J(5E-30,0,29)", "0." + "0".repeat(28) + "1", "$J(1E29,0,1)", "1" + "0".repeat(29) + ".0", "$J(`1E30`,0,1)", "{,M92,}", "$J(999999999999999999,0,2)", "999999999999999999.00");
    }

    private static void namesAndOrders() {
        says("$NAME(ref,n): with n: that of its first n subscripts (below 0: M92)");
        values("$NA(A)", "A", "$NA(^A)", "^A", "$NA(A(1))", "A(1)", "$NA(A(1,2),0)", "A", "$NA(A(1,2),1)", "A(1)", "$NA(A(1,2),2)", "A(1,2)", "$NA(A(1,2),3)", "A(1,2)", "$NA(A(1,2),-1)", "{,M92,}", "$NA(^A(1),-1)", "{,M92,}", "$NA(A,0)", "A", "$NA(A,5)", "A");
        says("CANONIC ones as they are, others in \" with each \" twice");
        values("$NA(A(1,`1.0`,`x`,-.5,``` ```))", "A(1,\"1.0\",\"x\",-.5,\"\"\" \"\"\")", "$NA(A(1E3,007))", "A(1000,7)", "$NA(A(````))", "A(\"\"\"\")", "$L($NA(A($TR($J(``,60),` `,````))))", "125");
        says("$ORDER(ref,d), d 1 or -1 (else M92)");
        runs("S A(1)=1,A(3)=1 W $O(A(1)),$O(A(1),1),$O(A(3),-1),$O(A(1),1.9),$O(A(3),-1.9)", "33131", "W $O(A(1),0)", "{,M92,}", "W $O(A(1),2)", "{,M92,}", "W $O(A(1),-2)", "{,M92,}", "W $O(A(1),``)", "{,M92,}", "W $O(A,2)", "{,M92,}", "W $O(^A,0)", "{,M92,}", "W $O(A(``,1),2)", "{,M92,}");
        says("the next subscript (before it, for -1) at this last place, below the same ones, with DATA; empty if none");
        runs("S A(1,5)=1,A(2)=1,A(4)=1 W $O(A(0)),$O(A(1)),$O(A(2)),$O(A(3)),$O(A(4)),`|`,$O(A(9),-1),$O(A(4),-1),$O(A(3),-1),$O(A(2),-1),$O(A(1),-1),`|`,$O(A(1,0)),$O(A(1,5)),$O(A(2,0))", "1244|4221|5", "S A(1)=1 K A(1) W $O(A(``))", "", "S ^A(1,2)=1,^B(1,3)=1 W $O(^A(1,2)),$O(^A(2)),$O(^B(1,``),-1)", "3",
            "S A(1)=1,B(2)=2 W $O(A(1)),$O(B(2),-1)", "");
        says("an empty last one is before all (behind all, for -1)");
        runs("S A(-5)=1,A(`z`)=1,A(1,-1)=1,A(1,`y`)=1 W $O(A(``)),$O(A(``),-1),$O(A(1,``)),$O(A(1,``),-1),$O(A(2,``)),$O(B(``)),$O(B(``),-1)", "-5z-1y");
        says("Of a name without subscripts: the next name of a local (global) with DATA, by bytes, likewise (^ before a global's)");
        runs("S %=1,A=1,AA=1,B(1)=1,Z=1,a=1,b=1 K b W $O(%),$O(A),$O(AA),$O(B),$O(Z),$O(a),`|`,$O(b,-1),$O(a,-1),$O(B,-1),$O(A,-1),$O(%,-1),`|`,$O(C),$O(C,-1)", "AAABZa|aZAA%|ZB", "S ^%=1,^A(1)=1,^B=1 W $O(^%),$O(^A),$O(^B),`|`,$O(^C,-1),$O(^B,-1),$O(^%,-1)", "^A^B|^B^A",
            "S A=1 W $O(^A),$O(^%)", "", "S ^B=1 W $O(A)", "", "S B=1 N B W $O(A)", "");
        says("$QLENGTH(s), $QSUBSCRIPT(s,n): s is a text as of $NAME (else Z3): how many subscripts; subscript n, 0 the name (with ^), empty for others (-1, too)");
        values("$QL(`A`)", "0", "$QL(`^A`)", "0", "$QL(`A(1)`)", "1", "$QL(`A(1,2,3,4,5,6)`)", "6", "$QS(`A(1)`,0)", "A", "$QS(`^A(1)`,0)", "^A", "$QS(`A(1)`,1)", "1", "$QS(`A(1)`,2)", "", "$QS(`A(1)`,-1)", "", "$QS(`A(1)`,-2)", "", "$QS(`A`,1)", "", "$QS(`A(1,2,3,4,5,6)`,6)", "6", "$QS(`A(1,2,3,4,5,6)`,7)", "");
        runs("S X=$NA(A(`a``b`,1)) W $QL(X),$QS(X,1),$QS(X,2)", "2a\"b1", "S X=$NA(^A($J(1,60),$J(1,35))) W $QL(X),$L($QS(X,1)),$L($QS(X,2))", "26035", "S X=`A(```_$J(1,60)_```,```_$J(1,36)_```)` W $QL(X)", "{,Z3,}", "S X=`A(```_$J(1,61)_```)` W $QL(X)", "{,Z3,}", "W $QL(`^ABCDEFGH(1)`),$QS(`^ABCDEFGH(1)`,0)", "1^ABCDEFGH", "W $QL(`^ABCDEFGHI(1)`)", "{,Z3,}", "W $QL(`A;1)`)", "{,Z3,}", "W $QL(`A,1)`)", "{,Z3,}");
        for (String bad : new String[] {"", "1", "A(", "A()", "A(1", "A(1))", "A(1,)", "A(,1)", "A(1)x", "A 1", " A", "A ", "A(01)", "A(1.0)", "A(+1)", "A(1E2)", "A(``1``)", "A(``-.5``)", "A(````)", "A(x)", "A(``x)", "A(``x``y)", "A(``x``,)", "^", "^(1)", "@A", "$A", "ABCDEFGHI", "A(1,2,3,4,5,6,7)", "A(-0)", "A(1 )", "A( 1)", "A(.)"}) {
            values("$QL(`" + bad + "`)", "{,Z3,}", "$QS(`" + bad + "`,0)", "{,Z3,}");
        }
        says("$QUERY(ref): the $NAME of the next node in their order that has a value, of the same name; empty. (A last subscript that is empty is before all.)");
        runs("S A=1,A(1,2)=1,A(2)=1,B=1 W $Q(A),$Q(A(1)),$Q(A(1,2)),$Q(A(1,3)),$Q(A(2)),$Q(A(``)),$Q(A(1,``)),$Q(A(0)),$Q(B),$Q(%)", "A(1,2)A(1,2)A(2)A(2)A(1,2)A(1,2)A(1,2)", "S ^A(1)=1,^B(1)=1 W $Q(^A),$Q(^A(1)),$Q(^B(``))", "^A(1)^B(1)", "S A(1)=1 W $Q(A(1,``)),$Q(A(1,2,3))", "", "S A=1 W $Q(A)", "");
    }

    private static void pieces() {
        says("$PIECE(s,t,n,m): s cut at each t, pieces n (1) to m (n), t between; n below 1 is 1 (m is what was told); empty with t empty, m below n, or none there");
        values("$P(`a,b,c`,`,`)", "a", "$P(`a,b,c`,`,`,1)", "a", "$P(`a,b,c`,`,`,2)", "b", "$P(`a,b,c`,`,`,3)", "c", "$P(`a,b,c`,`,`,4)", "", "$P(`a,b,c`,`,`,0)", "", "$P(`a,b,c`,`,`,-1)", "", "$P(`a,b,c`,`,`,0,1)", "a", "$P(`a,b,c`,`,`,-5,2)", "a,b", "$P(`a,b,c`,`,`,0,0)", "", "$P(`a,b,c`,`,`,1,0)", "",
            "$P(`a,b,c`,`,`,2,1)", "", "$P(`a,b,c`,`,`,2,2)", "b", "$P(`a,b,c`,`,`,2,3)", "b,c", "$P(`a,b,c`,`,`,2,4)", "b,c", "$P(`a,b,c`,`,`,4,9)", "", "$P(`a,b,c`,``)", "", "$P(`a,b,c`,``,1,3)", "", "$P(``,`,`)", "", "$P(``,`,`,2)", "", "$P(`abc`,`,`)", "abc", "$P(`abc`,`,`,2)", "", "$P(`a--b--c`,`--`,2,3)", "b--c",
            "$P(`aaa`,`aa`,2)", "a", "$P(`,`,`,`,2)", "", "$P(`a,`,`,`,1,2)", "a,", "$P(`,a`,`,`,1,2)", ",a");
        says("SET $PIECE: pieces n to m of the node's value (none: empty) become e, with t put behind it as often as there must be");
        String[] sets = {"S $P(A,`,`)=1", "1", "S $P(A,`,`,3)=1", ",,1", "S A=`a,b,c`,$P(A,`,`,2)=1", "a,1,c", "S A=`a,b,c`,$P(A,`,`,1,2)=1", "1,c", "S A=`a,b,c`,$P(A,`,`,2,9)=1", "a,1", "S A=`a,b,c`,$P(A,`,`,3)=``", "a,b,", "S A=`a,b,c`,$P(A,`,`,4)=1", "a,b,c,1", "S A=`a,b,c`,$P(A,`,`,5)=1", "a,b,c,,1",
            "S A=`a,b,c`,$P(A,`,`,5,7)=1", "a,b,c,,1", "S A=`a--b`,$P(A,`--`,2)=1", "a--1", "S A=`abc`,$P(A,`,`)=1", "1", "S A=`abc`,$P(A,`,`,2)=1", "abc,1", "S A=``,$P(A,`,`,2)=1", ",1", "S A=`a,b`,$P(A,`,`,1)=`x,y`", "x,y,b", "S A=`a,b,c`,$P(A,`,`,1,3)=``", ""};
        for (int i = 0; i < sets.length; i += 2) run(sets[i] + " W A", sets[i + 1]);
        says("n below 1 is 1; m below n, or t empty: nothing is done (but it was met)");
        runs("S A=`a,b`,$P(A,`,`,0,1)=1 W A", "1,b", "S A=`a,b`,$P(A,`,`,-9,2)=1 W A", "1", "S A=`a,b`,$P(A,`,`,0,0)=1 W A", "a,b", "S A=`a,b`,$P(A,`,`,2,1)=1 W A", "a,b", "S A=`a,b`,$P(A,``)=1,$P(A,``,1,5)=1 W A", "a,b", "S $P(A,``)=1,$P(A,`,`,2,1)=1,$P(A,`,`,1,0)=1 W $D(A)", "0",
            "S ^A(1)=1,$P(^B(5,5),``)=1 W $NA(^(6))", "^B(5,6)", "S ^A(1)=1,$P(^B(5,5),`,`,2,1)=1 W $NA(^(6)),$D(^B)", "^B(5,6)0", "S $P(A(``),``)=1", "{,Z2,}", "S $P(^(1),``)=1", "{,M1,}");
        says("More than 250 bytes: M75");
        runs("S $P(A,`,`,250)=1 W $L(A)", "250", "S $P(A,`,`,251)=1", "{,M75,}", "S $P(A,`,`,251)=`` W $L(A)", "250", "S $P(A,`,`,252)=``", "{,M75,}", "S A=$J(`,`,250),$P(A,`,`)=$J(1,249) W $L(A)", "250", "S A=$J(`,`,250),$P(A,`,`)=$J(1,250)", "{,M75,}", "S A=$J(`,`,250),$P(A,`,`,2)=``,$P(A,`,`,2)=1", "{,M75,}",
            "S $P(A,$J(1,50),6)=`` W $L(A)", "250", "S $P(A,$J(1,50),6)=1", "{,M75,}", "S $P(A,`,`,2000000000)=1", "{,M75,}", "S $P(A,$J(1,250),2000000000)=1", "{,M75,}");
        says("$EXTRACT(ref,n,m): bytes n to m likewise, with blanks");
        String[] bytes = {"S $E(A)=1", "1", "S $E(A,3)=1", "  1", "S A=`abc`,$E(A)=1", "1bc", "S A=`abc`,$E(A,2)=`xy`", "axyc", "S A=`abc`,$E(A,2,3)=1", "a1", "S A=`abc`,$E(A,2,9)=1", "a1", "S A=`abc`,$E(A,4)=1", "abc1", "S A=`abc`,$E(A,5)=1", "abc 1", "S A=`abc`,$E(A,3,3)=``", "ab", "S A=`abc`,$E(A,0,1)=1", "1bc",
            "S A=`abc`,$E(A,-9,2)=1", "1c", "S A=`abc`,$E(A,2,1)=1", "abc", "S A=`abc`,$E(A,0,0)=1", "abc", "S A=`abc`,$E(A,1,3)=``", "", "S A=`abc`,$E(A,6)=``", "abc  ", "S A=`abc`,$E(A,1,2)=`xyz`", "xyzc"};
        for (int i = 0; i < bytes.length; i += 2) run(bytes[i] + " W A", bytes[i + 1]);
        runs("S $E(A,2,1)=1 W $D(A)", "0", "S $E(A,250)=1 W $L(A)", "250", "S $E(A,251)=1", "{,M75,}", "S $E(A,251)=`` W $L(A)", "250", "S $E(A,252)=``", "{,M75,}", "S $E(A,2000000000)=``", "{,M75,}", "S A=$J(1,250),$E(A,1)=12", "{,M75,}", "S A=$J(1,250),$E(A,250)=2 W $L(A),$E(A,250)", "2502", "S A=$J(1,250),$E(A,1,2)=12 W $L(A)", "250",
            "S ^A(1)=1,$E(^B(5,5),2,1)=1 W $NA(^(6)),$D(^B)", "^B(5,6)0");
    }

    private static void texts() {
        String r = "F(A) ;one\n ;two\nG ;three\n";
        says("$TEXT: the line of the entry; empty if there is none; of +0 the routine's name");
        run(r, "W $T(F^R),`|`,$T(^R),`|`,$T(+1^R),`|`,$T(+2^R),`|`,$T(F+1^R),`|`,$T(G+0^R),`|`,$T(+0^R)", "F(A) ;one|F(A) ;one|F(A) ;one| ;two| ;two|G ;three|R");
        run(r, "W `[`,$T(+4^R),$T(+5^R),$T(G+1^R),$T(G+2^R),$T(H^R),$T(H+1^R),$T(^S),$T(+1^S),$T(+0^S),$T(F^S),`]`", "[]");
        run(r, "W 5_$T(+2^R),6_$T(G+0^R),7_$T(+0^R),8_$T(+9^R)", "5 ;two6G ;three7R8");
        says("an entry with + below 0 (of $TEXT, too)");
        run(r, "W $T(+-1^R)", "{,Z4,}");
        run(r, "W $T(G+-1^R)", "{,Z4,}");
        run(r, "W $T(+-1^S)", "{,Z4,}");
        run(r, "W $T(H+-1^R)", "{,Z4,}");
        run(r, "D H+-1^S", "{,Z4,}");
        run(r, "G G+-1^R", "{,Z4,}");
        run(r, "J G+-1^R", "{,Z4,}");
        says("without its 10; above 250 bytes: M75");
        run(" ;" + "x".repeat(248) + "\n ;" + "y".repeat(249), "W $L($T(+1^R)),$T(+2^R)", "250{,M75,}");
        run(" ;" + "x".repeat(248) + "\n ;" + "y".repeat(249), "W $T(+0^R),$T(+3^R),$L($T(^R))", "R250");
    }

    private static void specials() {
        says("$HOROLOG: the told second by 86400, a comma, and what that leaves");
        int[] seconds = {0, 1, 86399, 86400, 86401, 172800, 1999999999, 2000000000};
        House h = new House();
        for (int s : seconds) {
            h.house.time(s);
            due("second " + s, h.run("W $H"), s / 86400 + "," + s % 86400);
        }
        says("$JOB: the process's number");
        h = house("W $J", "W $J", "W $J");
        turns(h, 9);
        due("three", h.written(0) + h.written(1) + h.written(2), "012");
        says("$QUIT: 1 in an extrinsic's level, else 0");
        run("F X `W $Q` D  W $Q D G Q $Q\n .W $Q\nG W $Q Q", "W $Q,$$F^R,$Q X `W $Q`", "00" + "01" + "0" + "10" + "0");
        says("$STACK: how many levels are below this one");
        run("F W $ST X `W $ST` D  Q $ST\n .W $ST", "W $ST X `W $ST` W $$F^R", "011221");
        says("$TEST 1 or 0");
        runs("W $T I 5 W $T I 0", "01", "I 1 X `I 0` W $T", "0");
        says("$ECODE, $ETRAP");
        run("W `[`,$EC,$ET,`]` S $ET=`W $EC,$ET S $EC=````` W 1/0", "[],M9,W $EC,$ET S $EC=\"\"");
    }

    private static void extrinsics() {
        says("its value is what the QUIT that ends it gives; $TEST comes back behind it");
        run("F I 0\n Q 5", "I 1 W $$F^R,$T", "51");
        run("F I 1\n Q 5", "W $$F^R,$T", "50");
        run("F Q ``", "W `[`,$$F^R,`]`", "[]");
        run("F Q $J(1,250)", "W $L($$F^R)", "250");
        run("F I 0 Q 1\n W 1/0", "S $ET=`S $EC=```` W $T` I 1 W $$F^R", "1");
    }
}

/** Parts 1 and 2 at their edges: strings, numbers, their order, names, nodes, room for values. */
public final class BoundaryNumberTest extends Boundary {
    public static void main(String[] args) {
        strings();
        fitted();
        texts();
        canonic();
        reading();
        truth();
        order();
        names();
        nodes();
        data();
        rooms();
        House.report();
    }

    private static void strings() {
        says("STRINGS are 0 .. 250 bytes");
        values("$L(``)", "0", "$L($J(``,250)_``)", "250", "$L($J(``,249)_1)", "250", "$L(``_$J(``,250))", "250", "$J(``,250)_1", "{,M75,}", "1_$J(``,250)", "{,M75,}",
            "$J(``,125)_$J(``,126)", "{,M75,}");
        says("each 0 .. 255");
        House h = house("F I=0:1:255 S A=$G(A)_$C(I) I I#128=127 S ^A(I)=A,A=`` W ^A(I)");
        turns(h, 2000);
        for (int i = 0; i < 256; i++) due("byte " + i, h.house.written(0, i), i);
        due("behind them", h.house.written(0, 256), -1);
        h.look(0, "^A(255)", 0);
        for (int i = 0; i < 128; i++) due("byte " + i, h.house.result(i), 128 + i);
    }

    private static String nines(int n) {
        return "9".repeat(n);
    }

    private static String zeros(int n) {
        return "0".repeat(n);
    }

    private static void fitted() {
        says("a whole m of 1 to 18 digits (with its sign)");
        values("123456789012345678", "123456789012345678", "-123456789012345678", "-123456789012345678", "1", "1", nines(18), nines(18), "-" + nines(18), "-" + nines(18));
        says("rounded to 18 digits from its first one that is not 0, a half away from 0");
        values("1234567890123456785", "1234567890123456790", "-1234567890123456785", "-1234567890123456790", "1234567890123456784", "1234567890123456780",
            "-1234567890123456784", "-1234567890123456780", "1234567890123456784.9", "1234567890123456780", "1.234567890123456785", "1.23456789012345679",
            "1.234567890123456784", "1.23456789012345678", ".00123456789012345678500", ".00123456789012345679", ".9999999999999999995", "1", "." + nines(18) + "4", "." + nines(18),
            "000000000000000000000123456789012345678", "123456789012345678", nines(18) + "5", "1" + zeros(19), "-." + nines(18) + "5", "-1");
        says("What an operation gives is FITTED");
        values("123456789012345678+.5", "123456789012345679", "123456789012345678+.4", "123456789012345678", "123456789012345678-.5", "123456789012345678",
            "-123456789012345678-.5", "-123456789012345679", "-123456789012345678+.5", "-123456789012345678", "111111111111111111*1000000001", "111111111222222222" + zeros(9),
            nines(18) + "*" + nines(18), "{,M92,}", "999999999*999999999", "999999998000000001", "2/3", "." + "6".repeat(17) + "7", "1/3", "." + "3".repeat(18), "-2/3", "-." + "6".repeat(17) + "7");
        says("then to a whole number of times 10^-30, likewise");
        String tiny = "." + zeros(29);
        values("1E-30", tiny + "1", "-1E-30", "-" + tiny + "1", "5E-31", tiny + "1", "-5E-31", "-" + tiny + "1", "4.99999999999999999E-31", "0", "-4.99999999999999999E-31", "0",
            "1E-31", "0", "1.5E-30", tiny + "2", "1.49E-30", tiny + "1", "2.5E-30", tiny + "3", "1.4" + nines(16) + "6E-30", tiny + "2", "1.4" + nines(16) + "4E-30", tiny + "1",
            "1E-12+5E-30", "." + zeros(11) + "1" + zeros(16) + "1", "1E-12+4E-30", "." + zeros(11) + "1", "1E-12-5E-30", "." + zeros(12) + nines(17) + "5", "-1E-12-5E-30", "-." + zeros(11) + "1" + zeros(16) + "1",
            "1E-15*5E-16", tiny + "1", "1E-15*4E-16", "0", "1E-30/2", tiny + "1", "1E-30/3", "0", "-1E-30/2", "-" + tiny + "1", "9.5E-30", "." + zeros(28) + "1");
        says("size 10^30 or more then: error M92");
        values(nines(18) + "E12", nines(18) + zeros(12), "-" + nines(18) + "E12", "-" + nines(18) + zeros(12), "1E29", "1" + zeros(29), "1E30", "{,M92,}", "-1E30", "{,M92,}",
            nines(18) + "4" + zeros(11), nines(18) + zeros(12), nines(18) + "5" + zeros(11), "{,M92,}", "-" + nines(18) + "5" + zeros(11), "{,M92,}",
            "5E29+5E29", "{,M92,}", "5E29+4" + nines(17) + "E12", nines(18) + zeros(12), "-5E29-5E29", "{,M92,}", "1E15*1E15", "{,M92,}", "1E15*1E14", "1" + zeros(29),
            "1E29/.1", "{,M92,}", "1E29/.2", "5" + zeros(29), "1E29\\.1", "{,M92,}", "0E30", "0", "0E999", "0", "1E999", "{,M92,}", "9E29+1E29", "{,M92,}");
    }

    private static void texts() {
        says("- below 0; the digits before the point (none below 1), and if there are some behind it a point and these; no 0 in front or at the end behind the point; 0 is 0");
        values("-5", "-5", "0.5", ".5", "-0.5", "-.5", "1.50", "1.5", "010", "10", "10.0", "10", "0", "0", "-0", "0", "0.0", "0", "100", "100", ".0", "0", "1E3", "1000", "1E-3", ".001",
            "1.", "1", "12.3400", "12.34", "1-1", "0", "-1+1", "0", ".5-.5", "0");
    }

    private static void canonic() {
        says("A string is CANONIC if it is the text of a number");
        for (String is : new String[] {"0", "5", "-5", ".5", "-.5", "1.5", nines(18), nines(18) + zeros(12), "1" + zeros(29), "." + zeros(29) + "1", "-." + zeros(12) + nines(18), "1." + zeros(16) + "1", nines(17) + ".9"}) {
            values("$NA(A(`" + is + "`))", "A(" + is + ")");
        }
        for (String not : new String[] {"00", "-0", "+5", "05", "5.", "0.5", ".50", "-", ".", "-.", "1E2", "1" + zeros(30), "." + zeros(30) + "1", nines(19), nines(18) + ".9", "1." + zeros(17) + "1", "1.5.", "5 ", " 5", "--5", "5-", "a", "1a", ".0", "-.0"}) {
            values("$NA(A(`" + not + "`))", "A(\"" + not + "\")");
        }
    }

    private static void reading() {
        says("signs + and - (any number of them; each - turns it)");
        values("+`-5`", "-5", "+`--5`", "5", "+`+-+-+-5`", "-5", "+`" + "-".repeat(248) + "7`", "refused -2", "+`" + "-".repeat(200) + "7`", "7", "+`" + "-".repeat(201) + "7`", "-7", "+`- 5`", "0", "+` 5`", "0");
        says("digits with one point among, before or behind them or none, one digit at least");
        values("+`5`", "5", "+`1.5`", "1.5", "+`.5`", ".5", "+`5.`", "5", "+`.`", "0", "+`-.`", "0", "+`1..5`", "1", "+`1.5.5`", "1.5", "+`5-3`", "5", "+`.5.`", ".5", "+`..5`", "0", "+`-`", "0");
        says("then perhaps E, + or - or nothing, one digit at least: the longest front that is so, the part from E on only if it is whole");
        values("+`1E2`", "100", "+`1E+2`", "100", "+`1E-2`", ".01", "+`1E`", "1", "+`1E+`", "1", "+`1E-`", "1", "+`1E+-2`", "1", "+`1Ex`", "1", "+`1e2`", "1", "+`1E2E2`", "100", "+`1E2.5`", "100",
            "+`1.E2`", "100", "+`.1E2`", "10", "+`1 E2`", "1", "+`1E 2`", "1", "+`1E02`", "100");
        says("0 if there is none");
        values("+``", "0", "+`x`", "0", "+`E5`", "0", "+`x5`", "0", "+`.E5`", "0", "+$C(0)", "0", "+(`5`_$C(0)_`5`)", "5");
        says("An exponent's digits count up to 999");
        run("F Q ." + zeros(998) + "1E999", "W $$F^R", "1");
        run("F Q ." + zeros(999) + "1E1000", "W $$F^R", ".1");
        run("F Q ." + zeros(999) + "1E999", "W $$F^R", ".1");
        run("F Q 1" + zeros(999) + "E-999", "W $$F^R", "1");
        run("F Q 1" + zeros(1000) + "E-1001", "W $$F^R", "10");
        run("F Q 1" + zeros(1000) + "E-99999999999999999999", "W $$F^R", "10");
        values("+`1E1000`", "{,M92,}", "+`1E-1000`", "0", "+`0E99999999999`", "0", "+`1E-" + "9".repeat(100) + "`", "0");
        says("It is FITTED");
        values("+`1E30`", "{,M92,}", "+`-1E30`", "{,M92,}", "+`" + nines(30) + "`", "{,M92,}", "+`1234567890123456785`", "1234567890123456790", "+`5E-31`", "." + zeros(29) + "1");
    }

    private static void truth() {
        says("TRUE is a string that read so is not 0");
        for (String yes : new String[] {"1", "-1", ".001", "1x", "5E-31", "+1", "--1", "0.1"}) runs("I `" + yes + "` W 1", "1", "W '`" + yes + "`", "0", "W:`" + yes + "` 1", "1");
        for (String no : new String[] {"", "0", "-0", "x", "x1", ".", "0.0", "4E-31", "0E5", " 1", "0x1"}) runs("I `" + no + "` W 1", "", "W '`" + no + "`", "1", "W:`" + no + "` 1", "");
        runs("I `1E30` W 1", "{,M92,}", "W:`1E30` 1", "{,M92,}", "W '`1E30`", "{,M92,}", "W $S(`1E30`:1)", "{,M92,}");
    }

    private static void order() {
        says("ORDER of subscripts: CANONIC ones first, by their value, then all others by their bytes, one that begins the other before it");
        String[] sorted = {"-" + nines(18) + zeros(12), "-10", "-9.5", "-9", "-1", "-.5", "-.05", "-." + zeros(29) + "1", "0", "." + zeros(29) + "1", ".05", ".5", "1", "1.5", "9", "9.5", "10", "100",
            nines(18) + zeros(12), " ", "!", "+1", "-", "-0", ".", "00", "01", "1.0", "1E1", "A", "AA", "B", "a", "a ", "ab"};
        for (int i = 0; i < sorted.length; i++) {
            for (int k = 0; k < sorted.length; k++) {
                if (Math.abs(i - k) > 3) continue;
                House h = new House();
                due(sorted[i] + " ]] " + sorted[k], done(h, m("W `" + sorted[i] + "`]]`" + sorted[k] + "`")), i > k ? "1" : "0");
                due("the first of " + sorted[i] + " and " + sorted[k], done(h, m("S ^A(`" + sorted[i] + "`)=1,^A(`" + sorted[k] + "`)=1 W $O(^A(``))")), sorted[Math.min(i, k)]);
                due("the last of " + sorted[i] + " and " + sorted[k], done(h, m("S A(`" + sorted[i] + "`)=1,A(`" + sorted[k] + "`)=1 W $O(A(``),-1)")), sorted[Math.max(i, k)]);
            }
        }
        values("$C(127)]]`~`", "1", "$C(128)]]$C(127)", "1", "$C(255)]]$C(254,255)", "1", "$C(0)]]9", "1", "``]]-5", "0", "-5]]``", "1", "``]]``", "0");
    }

    private static void names() {
        says("NAMES: % or a letter A .. Z, a .. z, then letters and digits, 8 bytes at most");
        House h = new House();
        for (char c : "AZaz%".toCharArray()) {
            due("a name " + c, h.save("" + c, ""), 1);
            runs("S " + c + "=1 W " + c, "1", "S ^" + c + "(1)=1 W ^(1)", "1", "S " + c + "=1 W $O(" + (c == '%' ? "%0" : "%") + (c == '%' ? ",-1)" : ")"), "" + c);
        }
        for (char c : "@[{/:$&_019 .\0\u007f\u00c1".toCharArray()) due("no name " + (int) c, h.save("" + c, ""), -2);
        due("no name `", h.save("`", ""), -2);
        for (char c : "AZaz09".toCharArray()) {
            due("a name A" + c, h.save("A" + c, ""), 1);
            runs("S A" + c + "=1 W A" + c + ",$O(A)", "1A" + c, "S ^%" + c + "=1 W $O(^%)", "^%" + c);
        }
        for (char c : "%@[{/:$&_ .\0\u00c1".toCharArray()) due("no name A" + (int) c, h.save("A" + c, ""), -2);
        due("8 bytes", h.save("ABCDEFGH", ""), 1);
        h.tape("ABCDEFGHI");
        due("9 bytes", h.house.save(9), -1);
        runs("S ABCDEFGH=1,ABCDEFGG=2 W ABCDEFGH,ABCDEFGG", "12", "S ABCDEFGHI=1", "refused -2", "S A=`ABCDEFGH`,@A=5 W ABCDEFGH", "5", "S A=`ABCDEFGHI`,@A=5", "{,Z3,}");
    }

    private static void nodes() {
        says("A NODE is a name with 0 to 6 SUBSCRIPTS");
        runs("S A(1,2,3,4,5,6)=1 W $Q(A)", "A(1,2,3,4,5,6)", "S X=`A(1,2,3,4,5,6)`,@X=1 W @X", "1", "S X=`A(1,2,3,4,5,6)`,@X@(7)=1", "{,Z2,}", "S X=`A(1,2,3)`,@X@(4,5,6)=1 W $Q(A)", "A(1,2,3,4,5,6)",
            "S X=`A(1,2,3)`,@X@(4,5,6,7)=1", "{,Z2,}", "S ^A(1,2,3,4,5,6)=1,^(7)=2,^(8,9)=3", "{,Z2,}", "S ^A(1,2,3,4,5)=1,^(6,7)=2 W $Q(^A(1,2,3,4,6))", "^A(1,2,3,4,6,7)");
        says("each 1 to 60 bytes");
        runs("S A($J(1,60))=1 W $L($O(A(``)))", "60", "S A($J(1,61))=1", "{,Z2,}", "S ^A(1,$J(1,60))=1 W $L($O(^A(1,``)))", "60", "S ^A(1,$J(1,61))=1", "{,Z2,}", "S A(`x`)=1 W $O(A(``))", "x",
            "S A(``)=1", "{,Z2,}", "S A(1,``)=1", "{,Z2,}", "S A(``,1)=1", "{,Z2,}", "S A($J(1,250))=1", "{,Z2,}");
        says("its SIZE, the name's bytes and 2 more than its bytes for each subscript, is 100 at most");
        // 1 + 62 + 37, 8 + 62 + 30, 1 + 6 * 2 + 87
        runs("S A($J(1,60),$J(1,35))=1 W 1", "1", "S A($J(1,60),$J(1,36))=1", "{,Z2,}", "S ^ABCDEFGH($J(1,60),$J(1,28))=1 W 1", "1", "S ^ABCDEFGH($J(1,60),$J(1,29))=1", "{,Z2,}",
            "S A(1,2,3,4,5,$J(1,60))=1 W 1", "1", "S AB(1,22,3,4,$J(1,20),$J(1,60))=1 W 1", "1", "S AB(1,2,3,4,$J(1,22),$J(1,60))=1 W 1", "1", "S AB(1,2,3,4,$J(1,23),$J(1,60))=1 W 1", "{,Z2,}",
            "L A($J(1,60),$J(1,36))", "{,Z2,}", "L A($J(1,60),$J(1,35)) W 1", "1");
        for (int n = 1; n <= 8; n++) {
            String name = "ABCDEFGH".substring(0, n);
            runs("S " + name + "($J(1,60),$J(1," + (36 - n) + "))=1 W 1", "1", "S " + name + "($J(1,60),$J(1," + (37 - n) + "))=1", "{,Z2,}", "S ^" + name + "($J(1,60),$J(1," + (36 - n) + "))=1 W 1", "1", "S ^" + name + "($J(1,60),$J(1," + (37 - n) + "))=1", "{,Z2,}");
        }
        runs("S ^A($J(1,60),1)=1,^($J(1,35))=2 W 1", "1", "S ^A($J(1,60),1)=1,^($J(1,36))=2", "{,Z2,}", "S ^A($J(1,60),1)=1,^($J(1,50))=2", "{,Z2,}", "S ^A($J(1,60),1)=1,^($J(1,60),1)=2", "{,Z2,}", "S ^A($J(1,60),1)=1,^($J(1,60),$J(1,60))=2", "{,Z2,}",
            "S A($J(1,60))=1 M B($J(1,35))=A W 1", "1", "S A($J(1,60))=1 M B($J(1,36))=A", "{,Z2,}", "S A($J(1,60))=1 M B($J(1,60))=A", "{,Z2,}", "S A($J(1,60),$J(1,20))=1 M ^B($J(1,60))=A", "{,Z2,}", "S X=`A(```_$J(1,60)_```)` S @X@($J(1,60))=1", "{,Z2,}");
        says("What has an empty subscript, one too long, too many or too great a size is error Z2 when it is met, that is used");
        for (String bad : new String[] {"A(``)", "A(1,``)", "A(``,1)", "A($J(1,61))", "A($J(1,60),$J(1,36))", "@`A(1,2,3,4,5,6)`@(7)", "^A(``)", "^A(1,``)", "^A(``,1)", "^A($J(1,61))", "^A($J(1,60),$J(1,36))", "@`^A(1,2,3,4,5,6)`@(7)"}) {
            for (String use : new String[] {"W *", "S X=$D(*)", "S X=$G(*)", "S X=$G(*,1)", "S X=$NA(*)", "S X=$NA(*,1)", "S *=1", "S (X,*)=1", "S $P(*,1)=1", "S $E(*,1)=1", "K *", "L *", "L +*", "L -*", "L (X,*)", "M *=X", "M X=*"}) {
                run(use.replace("*", bad), "{,Z2,}");
            }
        }
        House h = house("R A(``)", "R ^A($J(1,61)):0");
        h.tell(0, "x");
        turns(h, 20);
        due("READ", h.code(0) + h.code(1), ",Z2,,Z2,");
        says("a SET's target behind its e");
        runs("S A(``)=1/0", "{,M9,}", "S $P(A(``),1)=1/0", "{,M9,}", "S (B,A(``))=1/0", "{,M9,}", "S $ET=`S $EC=```` W $D(B),$D(C)` S (B,A(``),C)=1", "10");
        says("but an empty one may be last where $ORDER and $QUERY are told");
        runs("S A(1,2)=3 W $O(A(``)),$O(A(``),-1),$O(A(1,``)),$Q(A(``)),$Q(A(1,``))", "112A(1,2)A(1,2)", "W $O(A(``,1))", "{,Z2,}", "W $Q(A(``,1))", "{,Z2,}", "W $O(^A(``,``))", "{,Z2,}",
            "W $O(A($J(1,60),$J(1,33),``))", "", "W $O(A($J(1,60),$J(1,34),``))", "{,Z2,}", "S X=`A(1,2,3,4,5,6)` W $O(@X@(``))", "{,Z2,}", "S X=`A(1,2,3,4,5)` W $Q(@X@(``))", "",
            "W $O(A($J(1,61)))", "{,Z2,}", "W $Q(A($J(1,61)))", "{,Z2,}");
    }

    private static void data() {
        says("DATA of a node: 1 if it has a value, and 10 more if one below it (with the same subscripts and more) has");
        runs("S A(1,2)=5,A(3)=``,A(3,1)=2,A(12)=7 W $D(A),`,`,$D(A(1)),`,`,$D(A(1,2)),`,`,$D(A(3)),`,`,$D(A(3,1)),`,`,$D(A(2)),`,`,$D(A(12)),`,`,$D(A(1,2,3))", "10,10,1,11,1,0,1,0",
            "S ^A(1,2)=5,^A(12)=1 K ^A(1,2) W $D(^A(1)),$D(^A)", "010", "S B=1 W $D(A),$D(C)", "00", "S A(`a`,1)=1,A(`ab`)=1,A(`a`,`z`)=1 W $O(A(``)),$O(A(`a`)),$O(A(`ab`),-1),$D(A(`a`)),$Q(A(`a`,`z`))", "aaba10A(\"ab\")", "S ^A(`a`,9)=1,^A(`a1`)=1,^A(`a`)=1 W $Q(^A),$Q(^A(`a`)),$Q(^A(`a`,9))", "^A(\"a\")^A(\"a\",9)^A(\"a1\")");
        says("a node before those below it, else by the first subscript that differs");
        run("S A(2)=1,A(1,9)=1,A(1)=1,A(1,10,1)=1,A(1,10)=1,A=1,X=`A` W X F  S X=$Q(@X) Q:X=``  W ` `,X", "A A(1) A(1,9) A(1,10) A(1,10,1) A(2)");
    }

    private static void rooms() {
        says("There are 800 values of globals at most");
        runs("F I=1:1:800 S ^A(I)=1 I I=800 S ^A(800)=2 W ^A(800)", "2", "F I=1:1:800 S ^A(I)=1 I I=800 S ^B=2", "{,Z1,}", "F I=1:1:800 S ^A(I)=1 I I=800 K ^A(3) S ^B=2 W 1 S ^A(3)=1", "1{,Z1,}");
        says("(those of transactions' copies count, too)");
        runs("F I=1:1:400 S ^A(I)=1 I I=400 TS  S ^A(7)=2 W $D(^A),^A(7) S ^A(500)=1", "102{,Z1,}", "F I=1:1:399 S ^A(I)=1 I I=399 TS  S ^A(7)=2,^A(500)=1,^B=5 W 1 S ^B(1)=1", "1{,Z1,}",
            "F I=1:1:401 S ^A(I)=1 I I=401 TS  S X=$D(^A)", "{,Z1,}");
        House h = house("F I=1:1:300 S ^A(I)=1 I I=300 TS  S X=$D(^A) R Y");
        turns(h, 1200);
        due("count", h.house.count(1), 600);
        due("another's", done(h, m("F I=1:1:200 S ^B(I)=1 I I=200 W 1 S ^C=1")), "1{,Z1,}");
        due("count", h.house.count(1), 800);
        due("another's", done(h, m("S ^A(1)=7 W ^A(1)")), "7");
        h.house.halt(0);
        due("count", h.house.count(1), 500);
        says("500 of locals (of all processes");
        runs("F I=1:1:499 S A(I)=1 I I=499 W 1 S A(1)=2 W A(1) S B=1", "12{,Z1,}", "F I=1:1:498 S A(I)=1 I I=498 S B=1 W B", "1");
        h = house("F I=1:1:298 S A(I)=1 I I=298 R X");
        turns(h, 1200);
        due("count", h.house.count(2), 299);
        due("another's", done(h, m("F I=1:1:200 S A(I)=1 I I=200 W 1 S B=1")), "1{,Z1,}");
        due("count", h.house.count(2), 299);
        due("another's", done(h, m("F I=1:1:201 S A(I)=1 W:I>199 I")), "200{,Z1,}");
        says("also hidden ones, and those that TSTART keeps)");
        runs("F I=1:1:498 S A(I)=1 I I=498 N A S A=1 W 1 S B=1", "1{,Z1,}", "F I=1:1:249 S A(I)=1 I I=249 TS (A) W 1 S B=1 W 2 S C=1", "12{,Z1,}", "F I=1:1:250 S A(I)=1 I I=250 TS (A) W 1 S B=1", "{,Z1,}",
            "F I=1:1:249 S A(I)=1 I I=249 TS * W 1 S B=1", "1{,Z1,}");
        says("else error Z1");
        run("F I=1:1:499 S A(I)=1 I I=499 M B(1)=A(1)", "{,Z1,}");
        run("F(X) W X Q 1", "F I=1:1:499 S A(I)=1 I I=499 W $$F^R(2)", "{,Z1,}");
        run("F(X) W X Q 1", "F I=1:1:499 S A(I)=1 I I=499 W $$F^R(.I),$$F^R(,3)", "4991{,M58,}");
        run("F(X) W X Q 1", "F I=1:1:499 S A(I)=1 I I=499 J F^R(2)", "{,Z1,}");
        run("F I=1:1:499 S A(I)=1 I I=499 F J=1 W 1", "{,Z1,}");
        h = house("F I=1:1:499 S A(I)=1 I I=499 R X");
        h.tell(0, "x");
        turns(h, 2000);
        due("READ", h.code(0), ",Z1,");
    }
}

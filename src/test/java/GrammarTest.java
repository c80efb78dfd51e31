import java.util.Random;

/** Part 3: texts grown from its rules have no fault, their fronts only at their end, and the FAULT of others is told. */
public final class GrammarTest {
    private static final Random random = new Random(11);
    private static House house = new House();
    private static int saved = 0;

    public static void main(String[] args) {
        faults();
        limits();
        for (int i = 0; i < 700; i++) grown();
        House.report();
    }

    /** The place of the fault; -1 if there is none. */
    private static int fault(String text) {
        if (++saved % 25 == 0) house = new House();
        int answer = house.save("R", text);
        return answer > 0 ? -1 : answer <= -10 ? -10 - answer : -100 + answer;
    }

    private static void at(String text, int place) {
        House.due("fault of " + text.replace("\n", "<10>"), fault(text), place);
    }

    private static void fine(String... texts) {
        for (String t : texts) at(t, -1);
    }

    private static void faults() {
        fine("", " ", "A", "A ", "12345678", "A()", "A(B,C) ", " .", " . . ", " ..W 1", " ;x", "A ;", " W 1 ;", "\n\n", "\nA\n");
        at(";", 0);
        at("A;", 1);
        at("A\tW", 1);
        at(" W", 2);
        at(" W ", 3);
        at(" W  ", 3);
        at(" W  1", 3);
        at(" W 1;", 4);
        at(" Q ", 3);
        at(" Q \nA", 3);
        fine(" Q", " Q  ", " Q   ", " Q  W 1", " Q  ;", " W 1 ", " W 1  ;x", " q:1  w 1", " H", " H 1", " HALT", " HANG 1", " h:1", " H:1 2");
        at(" Q ;", 3);
        at(" Q 1,2", 4);
        at(" HALT 1", 6);
        at(" HANG", 5);
        at(" HANG  ", 6);
        at(" HA", 3);
        at(" HAX", 3);
        at(" E 1", 3);
        at(" E:1", 2);
        at(" F:1", 2);
        at(" I:1 1", 2);
        at(" I", 2);
        at(" B 1", 3);
        at(" TC 1", 4);
        at(" TRE 1", 5);
        at(" TRO:1 1", 7);
        at(" T", 2);
        at(" TR", 3);
        at(" TX", 2);
        fine(" TC", " TRE", " TRO", " TS", " TS *", " TS ()", " TS (A)", " TS:1 (A,B)", " TSTART:1  ", " tcommit  trollback");
        at(" TS (", 5);
        at(" TS (1", 5);
        at(" TS A", 4);
        at(" TS (A", 6);
        fine(" F  ", " F  Q", " F I=1", " F I=1,2:3,4:5:6", " F I=1 ");
        at(" F I", 4);
        at(" F I(1)=1", 4);
        at(" F I=1:2:3:4", 10);
        at(" F @I=1", 3);
        at(" F I=", 5);
        fine(" S A=1", " S (A,B(1))=1", " S $P(A,1)=2", " S $PIECE(A,1,2,3)=2", " S $E(A)=1", " S $E(A,1,2)=1", " S $EC=1", " S $ETRAP=1", " S @A",
            " S @A=1", " S @A@(1)=2", " S ($P(A,1),$EC,^B)=1", " S ^(1)=1", " S A=1,B=2", " S @A,B=2");
        at(" S A", 4);
        at(" S (A=1", 5);
        at(" S $P(A)=1", 7);
        at(" S $P(A,1,2,3,4)=1", 13);
        at(" S $E(A,1,2,3)=1", 11);
        at(" S $X=1", 4);
        at(" S $=1", 4);
        at(" S $EX=1", 6);
        at(" S $EXTRACT=1", 11);
        at(" S (@A", 6);
        at(" S 1=1", 3);
        fine(" D A", " D A+1", " D +1", " D ^A", " D A^B", " D A+1^B", " D +1^B", " D A(1,.B,)", " D A()", " D ^A(1)", " D 12", " D A:1,B:2", " D @A:1", " D @A,@B",
            " D A(.5,.B)", " D A(,)", " D:1 A(1):1");
        at(" D +1(1)", 5);
        at(" D A+1^B(1)", 8);
        at(" D A(.", 6);
        at(" D A(..", 6);
        at(" D 123456789", 3);
        at(" D 12A", 5);
        at(" D A^", 5);
        at(" D ^A+1", 5);
        at(" D @A@(1)", 5);
        at(" G A(1)", 4);
        fine(" G A", " G A+1^B:1,C", " G @A", " J A(1)", " J A", " J ^A()", " J A+1^B");
        at(" J A(,)", 5);
        at(" J A(1,)", 7);
        at(" J A(.B)", 6);
        at(" J @A", 3);
        at(" J A:1", 4);
        fine(" K", " K A,^B(1),(A,B),@C,@C@(1)", " N A,(B),@C", " N  ", " L", " L A", " L +A,-B(1),(A,^B):5,+(A):1,@A:1,@A", " M A=B,^(1)=@C,@D", " H @A,1",
            " I @A,B", " X @A:1,B:1,\"\"", " W @A,!,#!?5,?6,*7,A", " R X,\"a\",!,?5,X:1,@A,@A:2,@A@(1):2", " Q @A", " Q @A@(1)+1");
        at(" K (A", 5);
        at(" K (A(1))", 5);
        at(" K 1", 3);
        at(" N A(1)", 4);
        at(" N @A@(1)", 5);
        at(" N ^A", 3);
        at(" L ++A", 4);
        at(" L (+A)", 4);
        at(" L A:", 5);
        at(" M A", 4);
        at(" M A=1", 5);
        at(" R *X", 3);
        at(" R 1", 3);
        at(" R \"a\":1", 6);
        at(" W !A", 4);
        at(" W ?", 4);
        at(" W !?5!", 7);
        at(" W A!B,*", 8);
        expressions();
    }

    private static void expressions() {
        for (String f : new String[] {"D(A", "Q(A", "QL(1", "R(1", "RE(1", "T(A"}) at(" W $" + f + ",1)", 4 + f.length());
        for (String f : new String[] {"A(1,1", "L(1,1", "FN(1,1", "QS(1,1", "G(A,1", "NA(A,1", "O(A,1", "E(1,1,1", "F(1,1,1", "J(1,1,1", "TR(1,1,1", "P(1,1,1,1"}) {
            fine(" W $" + f + ")");
            at(" W $" + f + ",1)", 4 + f.length());
        }
        for (String f : new String[] {"FN(1", "F(1", "J(1", "P(1", "QS(1", "TR(1", "S(1"}) at(" W $" + f + ")", 4 + f.length());
        fine(" S $P(A,1)=1", " S $P(A,1,2)=1", " S $P(A,1,2,3)=1", " S $E(A)=1", " S $E(A,1)=1", " S $E(A,1,2)=1");
        at(" S $P(A)=1", 7);
        at(" S $P(A,1,2,3,4)=1", 13);
        at(" S $E(A,1,2,3)=1", 11);
        fine(" W 1,.5,5.,1E5,1.5E-3,5.E+3", " W A'=B,A'?1N,A?1N.A1.2L.3\"x\"1.(1A,2N)3E", " W A?@B,A'?@B", " W A]]B,A'[B,A**B,A\\B#C", " W ---'+A", " W ((A))",
            " W $A(1),$ASCII(1,2),$c(1,2,3),$D(A),$DATA(^A(1)),$E(1),$E(1,2,3),$F(1,2),$F(1,2,3),$FN(1,2),$G(A),$G(A,1),$J(1,2),$J(1,2,3)",
            " W $L(1),$L(1,2),$NA(A),$NA(A,1),$O(A(1)),$O(A,1),$P(1,2),$P(1,2,3,4),$QL(1),$QS(1,2),$Q(A),$R(1),$RE(1),$S(1:2),$S(1:2,3:4),$T(A),$T(+1^B),$TR(1,2),$TR(1,2,3)",
            " W $EC,$ET,$H,$J,$Q,$ST,$T,$TL,$TR,$X,$Y,$ECODE,$ETRAP,$HOROLOG,$JOB,$QUIT,$STACK,$TEST,$TLEVEL,$TRESTART", " W $$A,$$A^B,$$^B,$$A(1,.B,),$$12()",
            " W A(1,2,3,4,5,6),^A,^(1),@A,@A@(1),@\"A\"@(1),@@A,@@A@(1),@-A", " W \"a\"\"b\",\"\"", " W $$A+1,$T(A+1)");
        at(" W 1E", 5);
        at(" W 1EA", 5);
        at(" W 1E+", 6);
        at(" W .", 4);
        at(" W .A", 4);
        at(" W 1.2.3", 6);
        at(" W 1A", 4);
        at(" W A'", 5);
        at(" W A'+B", 5);
        at(" W A''=B", 5);
        at(" W A=", 5);
        at(" W A=<B", 5);
        at(" W \"a", 5);
        at(" W \"a\nB", 5);
        at(" W \"a\"\"", 7);
        at(" W (A", 5);
        at(" W ()", 4);
        at(" W $", 4);
        at(" W $Z", 4);
        at(" W $A", 5);
        at(" W $AS", 6);
        at(" W $AS(1)", 6);
        at(" W $ASCIIX(1)", 9);
        at(" W $ASCII", 9);
        at(" W $X(1)", 5);
        at(" W $TE", 6);
        at(" W $TE(A)", 6);
        at(" W $TESTX", 8);
        at(" W $A()", 6);
        at(" W $A(1,2,3)", 9);
        at(" W $F(1)", 7);
        at(" W $D(1)", 6);
        at(" W $D(A,1)", 7);
        at(" W $S(1)", 7);
        at(" W $S(1:2:3)", 9);
        at(" W $T(A(1))", 7);
        at(" W $T()", 6);
        at(" W $$", 5);
        at(" W $$+1", 5);
        at(" W $$A^", 7);
        at(" W A(", 5);
        at(" W A()", 5);
        at(" W A(1,)", 7);
        at(" W ^", 4);
        at(" W ^1", 4);
        at(" W @", 4);
        at(" W @A@", 6);
        at(" W @A@B", 6);
        at(" W A@(1)", 4);
        at(" W A?", 5);
        at(" W A?A", 5);
        at(" W A?1", 6);
        at(" W A?1X", 6);
        at(" W A?1.2", 8);
        at(" W A?1.2.3A", 8);
        at(" W A?1(", 7);
        at(" W A?1(A)", 7);
        at(" W A?1(1(1A))", 8);
        at(" W A?1(1A", 9);
        at(" W A?1(1A,)", 10);
        at(" W A?1A2", 8);
        at(" W A?@", 6);
        at(" W A?@B@(1)", 7);
        at(" W A_", 5);
        at(" W A,", 5);
        at(" W A,,B", 5);
        at(" X A,B ", -1);
    }

    private static void limits() {
        for (String front : new String[] {"W ", "W !?", "W ?", "W *", "W:", "S A=", "I ", "H ", "X ", "X A:", "D A:", "D @A:", "G A:", "D A+", "G +", "Q ", "F A=", "F A=1:", "F A=1:1:",
            "F A=1,", "L A:", "L +A:", "R A:", "W 1,", "W 1+", "W 1?1N,"}) {
            fine(" " + front + "(".repeat(15) + "1" + ")".repeat(15) + (front.equals("W:") ? " 1" : ""));
            at(" " + front + "(".repeat(16), 1 + front.length() + 15);
            at(" " + front + "-".repeat(16), 1 + front.length() + 15);
        }
        for (String front : new String[] {"S A(", "S ($P(A,", "K A(", "W $A(", "W $$A(", "D A(", "J A(", "W @A@(", "W ^(", "W $S(", "W $S(1:", "L (A(", "M A=B("}) {
            int open = front.replaceAll("[^(]", "").length();
            String behind = (front.equals("W $S(") ? ":1" : "") + ")".repeat(open) + (front.startsWith("S") ? "=1" : "");
            fine(" " + front + "-".repeat(15 - open) + "1" + behind);
            at(" " + front + "-".repeat(16 - open), 1 + front.length() + 15 - open);
        }
        at("ABCDEFGH", -1);
        at("ABCDEFGHI", 0);
        at(" W ABCDEFGHI", 3);
        at(" W ^ABCDEFGHI(1)", 4);
        at(" W %BCDEFGHI", 3);
        at("123456789", 0);
        at("A\nB\nA", 4);
        at("A\nB\n Q\nB ", 7);
        at("A\nAB\n", -1);
        at("1\n01\n1", 5);
        at("A(B,C,B)", 6);
        at("A(BC,B,BC)", 7);
        at("A(" + list("B", 20) + ")", -1);
        at("A(" + list("B", 21) + ")", 2 + list("B", 20).length() + 1);
        at(" W A?123N", -1);
        at(" W A?1234N", 5);
        at(" W A?1.1234N", 7);
        String deep = "(".repeat(15) + "1" + ")".repeat(15);
        at(" W " + deep, -1);
        at(" W (" + deep + ")", 18);
        at(" W " + "-".repeat(15) + "1", -1);
        at(" W " + "-".repeat(16) + "1", 18);
        at(" W " + "-".repeat(15) + "A(1)", 19);
        at(" W " + "-".repeat(14) + "A(1)", -1);
        at(" W " + "@".repeat(15) + "A", -1);
        at(" W " + "@".repeat(16) + "A", 18);
        at(" S (A(" + "(".repeat(13) + "1" + ")".repeat(13) + "))=1", -1);
        at(" S (A(" + "(".repeat(14) + "1" + ")".repeat(14) + "))=1", 19);
        at(" W " + "(".repeat(15) + "A?1(1A)" + ")".repeat(15), 3 + 15 + 3);
        at(" W A(1,2,3,4,5,6)", -1);
        at(" W A(1,2,3,4,5,6,7)", 17);
        at(" W A(1,2,3,4,5,6,)", 17);
        at(" W @A@(1,2,3,4,5,6,7)", 19);
        at(" D A(" + list("1", 20, false) + ")", -1);
        at(" D A(" + list("1", 21, false) + ")", 5 + 40);
        at(" W $$A(" + list("", 21, false) + ")", 7 + 20);
        at(" S (" + list("A", 20, false) + ")=1", -1);
        at(" S (" + list("A", 21, false) + ")=1", 4 + 40);
        at(" L (" + list("A", 20, false) + "),+(" + list("B", 21, false) + ")", 4 + 39 + 4 + 40);
        at(" K (" + list("A", 21, false) + ")", 4 + 40);
        at(" N (" + list("A", 20, false) + ")", -1);
        at(" N (" + list("A", 21, false) + ")", 4 + 40);
        at(" TS (" + list("A", 21, false) + ")", 5 + 40);
        at(" K " + list("A", 40, false), -1);
        at(" N " + list("A", 40, false), -1);
        at(" W $C(" + list("1", 20, false) + ")", -1);
        at(" W $C(" + list("1", 21, false) + ")", 6 + 40);
        at(" W \"" + "x".repeat(250) + "\"", -1);
        at(" W \"" + "x".repeat(251) + "\"", 3);
        at(" W \"" + "\"\"".repeat(250) + "\"", -1);
        at(" W A?1\"" + "x".repeat(251) + "\"", 6);
        at("\n".repeat(99), -1);
        at("\n".repeat(100), 100);
        at("\n".repeat(99) + " W 1\nX", 104);
        House.due("bytes", new House().save("R", " ;" + "x".repeat(2998)), 1);
        House.due("bytes", new House().save("R", " ;" + "x".repeat(2999)), -2);
    }

    private static String list(String name, int n) {
        return list(name, n, true);
    }

    private static String list(String name, int n, boolean numbered) {
        StringBuilder b = new StringBuilder();
        for (int i = 0; i < n; i++) b.append(i > 0 ? "," : "").append(name).append(numbered ? Integer.toString(i) : "");
        return b.toString();
    }

    private static void grown() {
        StringBuilder b = new StringBuilder();
        int lines = 1 + random.nextInt(3);
        for (int i = 0; i < lines; i++) b.append(i > 0 ? "\n" : "").append(line(i));
        String text = b.toString();
        if (text.length() > 600) return;
        at(text, -1);
        for (int k = 0; k < 12; k++) {
            int n = random.nextInt(text.length() + 1);
            int f = fault(text.substring(0, n));
            House.due("front " + n + " of " + text.replace("\n", "<10>"), f == -1 || f == n ? 1 : f + 1000, 1);
        }
        for (int k = 0; k < 8 && text.length() > 0; k++) {
            int n = random.nextInt(text.length());
            String other = text.substring(0, n) + (char) (random.nextInt(4) == 0 ? random.nextInt(256) : 32 + random.nextInt(95)) + text.substring(n + (random.nextBoolean() ? 1 : 0));
            int f = fault(other);
            boolean right = f == -1 || f >= n || nameOrStringHolds(other, f, n);
            House.due("changed at " + n + ": " + other.replace("\n", "<10>"), right ? 1 : f + 1000, 1);
        }
    }

    /** A name, digits or a line's label may be wrong from their first byte on. */
    private static boolean nameOrStringHolds(String text, int fault, int place) {
        String between = text.substring(fault, place + 1);
        return between.matches("%?[A-Za-z0-9]*");
    }

    private static String pick(String... of) {
        return of[random.nextInt(of.length)];
    }

    private static String line(int i) {
        StringBuilder b = new StringBuilder();
        if (random.nextInt(3) == 0) {
            b.append("L").append(i);
            if (random.nextInt(3) == 0) b.append(pick("()", "(A)", "(A,B,%c)"));
            if (random.nextInt(5) == 0) return b.toString();
        }
        b.append(pick(" ", "  "));
        for (int k = random.nextInt(5) - 3; k > 0; k--) b.append(pick(".", ". "));
        int commands = random.nextInt(4);
        for (int k = 0; k < commands; k++) {
            String c = command();
            b.append(c);
            boolean bare = !c.contains(" ");
            if (k + 1 < commands || random.nextInt(4) == 0) b.append(bare ? "  " : pick(" ", "  "));
        }
        if (random.nextInt(6) == 0 && b.charAt(b.length() - 1) == ' ') b.append("; note");
        return b.toString();
    }

    private static String condition() {
        return random.nextInt(4) == 0 ? ":" + e(3) : "";
    }

    private static String many(java.util.function.Supplier<String> of) {
        StringBuilder b = new StringBuilder(of.get());
        while (random.nextInt(3) == 0) b.append(",").append(of.get());
        return b.toString();
    }

    private static String command() {
        switch (random.nextInt(26)) {
            case 0: return pick("B", "BREAK", "b") + condition();
            case 1: return pick("D", "DO", "Do") + condition() + pick("", " " + many(() -> pick(entry(true, true), "@" + atom(3)) + condition()));
            case 2: return pick("E", "ELSE");
            case 3: return pick("F", "FOR") + pick("", " " + name() + "=" + many(() -> pick(e(3), e(3) + ":" + e(3), e(3) + ":" + e(3) + ":" + e(3))));
            case 4: return pick("G", "GOTO") + condition() + " " + many(() -> pick(entry(true, false), "@" + atom(3)) + condition());
            case 5: return pick("H", "HALT", "halt") + condition();
            case 6: return pick("H", "HANG") + condition() + " " + many(() -> pick(e(3), "@" + atom(3)));
            case 7: return pick("I", "IF") + " " + many(() -> e(3));
            case 8: return pick("J", "JOB") + condition() + " " + many(() -> pick("A", "A^B", "+" + e(3), "^B(" + many(() -> e(3)) + ")", "A()"));
            case 9: return pick("K", "KILL") + condition() + pick("", " " + many(() -> pick(ref(3), "(" + names() + ")", "@" + atom(3))));
            case 10: return pick("L", "LOCK") + condition()
                + pick("", " " + many(() -> pick("", "+", "-") + pick(ref(3), "(" + many(() -> ref(3)) + ")") + pick("", ":" + e(3))));
            case 11: return pick("M", "MERGE") + condition() + " " + many(() -> pick(ref(3) + "=" + ref(3), "@" + atom(3)));
            case 12: return pick("N", "NEW") + condition() + pick("", " " + many(() -> pick(name(), "(" + names() + ")", "@" + atom(3))));
            case 13: return pick("Q", "QUIT") + condition() + pick("", " " + e(3));
            case 14: return pick("R", "READ") + condition() + " " + many(() -> pick(ref(3) + pick("", ":" + e(3)), string(), form(), "@" + atom(3)));
            case 15: case 16: case 17: return pick("S", "SET") + condition() + " "
                + many(() -> pick(to() + "=" + e(3), "(" + many(() -> to()) + ")=" + e(3), "@" + atom(3)));
            case 18: return pick("TC", "TCOMMIT", "TRE", "TRESTART", "TRO", "TROLLBACK") + condition();
            case 19: return pick("TS", "TSTART") + condition() + pick("", " *", " ()", " (" + names() + ")");
            case 20: return pick("X", "XECUTE") + condition() + " " + many(() -> pick(e(3), "@" + atom(3)) + condition());
            default: return pick("W", "WRITE", "write") + condition() + " " + many(() -> pick(e(3), "*" + e(3), form(), "@" + atom(3)));
        }
    }

    private static String form() {
        return pick("!", "#", "!!#", "?" + e(3), "!?" + e(3), "##?" + e(3));
    }

    private static String to() {
        return pick(ref(3), ref(3), "$P(" + ref(3) + "," + e(3) + pick("", "," + e(3), "," + e(3) + "," + e(3)) + ")",
            "$EXTRACT(" + ref(3) + pick("", "," + e(3), "," + e(3) + "," + e(3)) + ")", "$EC", "$etrap");
    }

    private static String names() {
        return many(() -> name());
    }

    private static String name() {
        return pick("A", "b", "%", "%1", "Abcdefgh", "X9");
    }

    private static String string() {
        return pick("\"\"", "\"a b\"", "\"\"\"\"", "\"x\"\"y\"");
    }

    private static String entry(boolean plus, boolean actuals) {
        String where = pick("", "A", "12", "%x") ;
        boolean further = plus && random.nextInt(4) == 0;
        if (further) where += "+" + e(3);
        if (where.isEmpty() || random.nextInt(3) == 0) where += "^" + name();
        if (actuals && !further && random.nextInt(2) == 0) where += pick("()", "(" + many(() -> pick("", "." + name(), e(4))) + ")");
        return where;
    }

    private static String ref(int depth) {
        int d = depth - 1;
        String subscripts = random.nextBoolean() || d < 0 ? "" : "(" + many3(d) + ")";
        switch (random.nextInt(6)) {
            case 0: case 1: return name() + subscripts;
            case 2: case 3: return "^" + name() + subscripts;
            case 4: return "^(" + e(d) + ")";
            default: return "@" + atom(d) + pick("", "@(" + e(d) + ")");
        }
    }

    private static String many3(int d) {
        return pick(e(d), e(d) + "," + e(d), e(d) + "," + e(d) + "," + e(d));
    }

    private static String e(int depth) {
        StringBuilder b = new StringBuilder(atom(depth));
        while (depth > 0 && random.nextInt(3) == 0) {
            if (random.nextInt(6) == 0) {
                b.append(pick("?", "'?")).append(pick(pattern(1), "@" + atom(depth - 1)));
            } else {
                b.append(pick("_", "+", "-", "*", "/", "\\", "#", "**", "=", "<", ">", "[", "]", "]]", "&", "!", "'=", "'<", "'>", "'[", "']", "']]", "'&", "'!"));
                b.append(atom(depth - 1));
            }
        }
        return b.toString();
    }

    private static String pattern(int depth) {
        StringBuilder b = new StringBuilder();
        do {
            b.append(pick("1", "1.2", "3.", ".4", ".", "123", "0.999"));
            if (depth > 0 && random.nextInt(4) == 0) b.append("(").append(pattern(0)).append(pick("", "," + pattern(0))).append(")");
            else b.append(pick("A", "NP", "acelnpu", string()));
        } while (random.nextInt(3) == 0);
        return b.toString();
    }

    private static String atom(int depth) {
        int d = depth - 1;
        if (depth <= 0) return pick("1", "A", "\"x\"", "$X", ".5");
        switch (random.nextInt(10)) {
            case 0: return pick("+", "-", "'") + atom(d);
            case 1: return "(" + e(d) + ")";
            case 2: return string();
            case 3: return pick("1", "0.5", ".5", "12.", "1E5", "1.5E-3", "2.E+10");
            case 4: case 5: return ref(depth);
            case 6: return pick("$EC", "$Et", "$horolog", "$J", "$Q", "$ST", "$STACK", "$T", "$TL", "$TR", "$x", "$Y");
            case 7: return "$$" + entry(false, true);
            default: return function(d);
        }
    }

    private static String function(int d) {
        switch (random.nextInt(12)) {
            case 0: return pick("$A", "$ascii") + "(" + e(d) + pick("", "," + e(d)) + ")";
            case 1: return "$C(" + many3(d) + ")";
            case 2: return pick("$D", "$Q", "$DATA", "$query", "$G", "$NA", "$O") + "(" + ref(d) + ")";
            case 3: return pick("$G", "$NA", "$NAME", "$O", "$ORDER") + "(" + ref(d) + "," + e(d) + ")";
            case 4: return pick("$E", "$EXTRACT", "$L", "$QL", "$R", "$RE", "$REVERSE") + "(" + e(d) + ")";
            case 5: return pick("$E", "$F", "$FN", "$J", "$L", "$P", "$QS", "$TR", "$FIND", "$FNUMBER") + "(" + e(d) + "," + e(d) + ")";
            case 6: return pick("$E", "$F", "$J", "$P", "$TR", "$TRANSLATE") + "(" + e(d) + "," + e(d) + "," + e(d) + ")";
            case 7: return "$PIECE(" + e(d) + "," + e(d) + "," + e(d) + "," + e(d) + ")";
            case 8: return "$S(" + e(d) + ":" + e(d) + pick("", "," + e(d) + ":" + e(d)) + ")";
            case 9: return pick("$T", "$TEXT") + "(" + entry(true, false) + ")";
            default: return "$G(" + ref(d) + "," + e(d) + ")";
        }
    }
}

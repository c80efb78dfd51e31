import java.util.List;

/** Part 3 at its edges: lines, commands, arguments, expressions, and where THE FAULT of a text is. */
public final class BoundaryTextTest extends Boundary {
    private static final String[] WORDS = {"B", "BREAK", "D", "DO", "E", "ELSE", "F", "FOR", "G", "GOTO", "H", "HALT", "HANG", "I", "IF", "J", "JOB", "K", "KILL", "L", "LOCK", "M", "MERGE",
        "N", "NEW", "Q", "QUIT", "R", "READ", "S", "SET", "TC", "TCOMMIT", "TRE", "TRESTART", "TRO", "TROLLBACK", "TS", "TSTART", "W", "WRITE", "X", "XECUTE"};
    private static final String[] FUNCTIONS = {"A", "ASCII", "C", "CHAR", "D", "DATA", "E", "EXTRACT", "F", "FIND", "FN", "FNUMBER", "G", "GET", "J", "JUSTIFY", "L", "LENGTH", "NA", "NAME", "O", "ORDER",
        "P", "PIECE", "QL", "QLENGTH", "QS", "QSUBSCRIPT", "Q", "QUERY", "R", "RANDOM", "RE", "REVERSE", "S", "SELECT", "T", "TEXT", "TR", "TRANSLATE"};
    private static final String[] SPECIALS = {"EC", "ECODE", "ET", "ETRAP", "H", "HOROLOG", "J", "JOB", "Q", "QUIT", "ST", "STACK", "T", "TEST", "TL", "TLEVEL", "TR", "TRESTART", "X", "Y"};

    public static void main(String[] args) {
        lines();
        late();
        labels();
        spaces();
        words();
        conditions();
        arguments();
        indirect();
        entries();
        expressions();
        functions();
        patterns();
        tooLong();
        open();
        many();
        House.report();
    }

    private static void lines() {
        House h = new House();
        says("ROUTINES are texts of at most 3000 bytes");
        due("3000 bytes", h.save("R", " ;" + "x".repeat(2998)), 1);
        due("3001 bytes", h.save("R", " ;" + "x".repeat(2999)), -2);
        says("LINES, each but the last one ended by a byte 10 (an empty text has one line, one with a byte 10 at its end an empty last one)");
        String[] texts = {"", "\n", "A", "A\n", "A\nB", "A\nB\n", "\n\n\n"};
        int[] lines = {1, 2, 1, 2, 2, 3, 4};
        for (int i = 0; i < texts.length; i++) due("lines of " + texts[i], h.save("R", texts[i]), lines[i]);
        run("A ;x\n", "W $L($T(+1^R)),$L($T(+2^R)),$T(+3^R) D +2^R W 2", "4" + "02");
        run("A ;x\n", "D +3^R", "{,M13,}");
        says("the 101st line's first byte");
        faultAt("\n".repeat(99), -1);
        faultAt("\n".repeat(100), 100);
        faultAt("A\n" + " ;\n".repeat(98) + " W 1", -1);
        faultAt("A\n" + " ;\n".repeat(99) + " W 1", 2 + 3 * 99);
        faultAt("A\n" + " ;\n".repeat(99) + "(", 2 + 3 * 99);
        faultAt("A\n" + " ;\n".repeat(97) + "(\n\n\n", 2 + 3 * 97);
    }

    /** A routine's places are told up to 3000: all that may stand at a place is done at its end, too. */
    private static void late() {
        says("ROUTINES are texts of at most 3000 bytes");
        String front = (" ;" + "x".repeat(247) + "\n").repeat(10);
        String[] pairs = {"W 1,`a`,.5", "1a.5", "S Abc=7,^Abc(1)=8 W Abc,^Abc(1),^(1)", "788", "S @`Abc`=6 W Abc", "6", "W `a1`?1A1N,`a1`?2N,`b`?@`1A`", "101", "D Sub^R,Sub,Sub+1", "subsubmore", "W $$Val^R(5,.Abc),$$Val(6)", "56", "S (A,B,Abc)=1 K (A,Abc) W $D(A),$D(B),$D(Abc)", "101",
            "S (A,B)=1 X `N (A) W $D(A),$D(B)` N (A) W $D(A),$D(B)", "1010", "S A=1 TS (B,A) W A S A=2 TRE:$TR<1  W A", "112", "F Iij=1:1:3 W Iij", "123", "F Iij=1,2 W Iij", "12", "N Abc S Abc=3 W Abc", "3", "W $T(Sub),$T(Sub+1^R)", "Sub W `sub` Q W `more` Q", "S $P(Abc,`,`,2)=4 W Abc", ",4", "S $E(Abc)=9 W Abc", "9",
            "L Abc W $S(0:1,1:2),$G(Q,5),$D(Q)", "250", "J Sub W $J", "0", "S X=`W 3` X X:1,X:0", "3", "I 1 W 2 E  W 3", "2", "D Sub:1,Sub:0 Q:1  W 9", "sub", "M Q=^Abc W $D(Q)", "0", "G Sub", "sub"};
        for (int i = 0; i < pairs.length; i += 2) {
            String text = m("Go " + pairs[i] + "\n Q\nSub W `sub` Q\n W `more` Q\nVal(X,Y) S Y=3 Q X\n");
            due(pairs[i], House.of(text, "D Go^R"), m(pairs[i + 1]));
            due(pairs[i] + " at " + front.length(), House.of(front + text, "D Go^R"), m(pairs[i + 1]));
        }
        // as many words as bytes can make: two of each
        String dense = " S (A,B)=0,C=1,D=\"W 5\" X " + "A:B,".repeat(740) + "D:C";
        due("bytes", dense.length() < 3000 ? 1 : dense.length(), 1);
        due("a dense text", House.of(dense, "D ^R"), "5");
        due("a dense line", House.of("", "S (A,B)=0,C=1,D=\"W 5\" X " + "A:B,".repeat(54) + "D:C"), "5");
        due("dense arguments", House.of("A S (A,B)=0,C=1,D=\"W 5\",X=\"" + "A:B,".repeat(60) + "D:C\" X @X", "D ^R"), "5");
    }

    private static void labels() {
        says("A line: perhaps a LABEL (a name, or 1 to 8 digits)");
        fine("A", "%", "%A1", "z9", "ABCDEFGH", "1", "12345678", "00000000", "A ", "1 ", "A W 1", "1 W 1");
        faultAt("1A", 1);
        faultAt("A%", 1);
        faultAt("A.", 1);
        faultAt("_", 0);
        faultAt("A_", 1);
        says("behind it perhaps FORMALS, ( NAMES with , between, or none )");
        fine("A()", "A(B)", "A(B,C)", "A(B,C) ", "1(B)", "A(%,ABCDEFGH) W 1", "A() .W 1");
        faultAt("A(", 2);
        faultAt("A(,", 2);
        faultAt("A(B", 3);
        faultAt("A(B,", 4);
        faultAt("A(B,)", 4);
        faultAt("A(B C)", 3);
        faultAt("A(1)", 2);
        faultAt("A(.B)", 2);
        faultAt("A( B)", 2);
        faultAt("A (B)", 2);
        faultAt("(B)", 0);
        faultAt("A(B)W 1", 4);
        faultAt("A()()", 3);
        says("no name twice");
        faultAt("A(B,B)", 4);
        faultAt("A(B,C,D,C) W", 8);
        fine("A(B,b,BB,B1)", "A(A)");
        says("then nothing, or blanks (byte 32, one or more), then any number of POINTS (a . and perhaps blanks), then commands");
        fine("", " ", "   ", "A   ", " .", " ...", " . . .", " .W 1", " . W 1", " .  .   W 1", "A .W 1", "A(B) . . ;x", " . ", " .".repeat(1400));
        faultAt("W 1=2", 2);
        faultAt(".", 0);
        faultAt(";", 0);
        faultAt("A;", 1);
        faultAt("A\tW 1", 1);
        faultAt("\t", 0);
        faultAt(" .A", 2);
        faultAt(" W 1 .W 2", 5);
        faultAt(" \tW 1", 1);
        says("Its LEVEL is 1 and its points");
        run("A D  W 4\n .W 1 D  W 3\n . .W 2\n", "D ^R", "1234");
        says("No label twice");
        faultAt("A\nA", 2);
        faultAt("A\nB\n Q\nA(B", 7);
        faultAt("1\n1", 2);
        faultAt("A(X)\nA", 5);
        fine("A\na\nAA\nAB", "1\n01\n10", "A\n W 1\nB");
    }

    private static void spaces() {
        says("COMMANDS stand one behind the other with one blank or more between");
        fine(" W 1 W 2", " W 1    W 2", " Q  Q", " Q      Q  W 1");
        faultAt(" W 1W 2", 4);
        faultAt(" W `a`W 2", 6);
        faultAt(" W 1\tW 2", 4);
        says("(blanks may end the line, behind a word without arguments two or more)");
        fine(" W 1 ", " W 1     ", " Q  ", " Q    ", " TC  \n", " D:1  ", "A K    \n W 1 ");
        for (String word : new String[] {"B", "D", "E", "F", "H", "K", "L", "N", "Q", "TC", "TRE", "TRO", "TS", "HALT"}) {
            fine(" " + word, " " + word + "  ", " " + word + "   ", " " + word + "  W 1", " " + word + "\n", " " + word + "  ;x");
            faultAt(" " + word + " ", word.length() + 2);
            faultAt(" " + word + " \nA", word.length() + 2);
        }
        says("a ; (where a command may begin) and all behind it up to the line's end is a note");
        fine(" ;", " ; W (\n W 1", " W 1 ;(", " W 1  ;", " Q  ;", " .;", " ;;;", " ;\u0001\u00ff");
        faultAt(" W 1;", 4);
        faultAt(" Q ;", 3);
        faultAt(" W ;", 3);
        faultAt(" Q;", 2);
        faultAt(" ;(\n(", 4);
    }

    private static String with(String word) {
        switch (word.charAt(0)) {
            case 'G': return " A";
            case 'I': case 'W': case 'X': return " 1";
            case 'J': return " A";
            case 'M': return " A=B";
            case 'R': return " A";
            case 'S': return " A=1";
            default: return word.equals("HANG") ? " 1" : "";
        }
    }

    private static void words() {
        says("A COMMAND is a word (one below, capital or small letters: those before its bracket, or the whole)");
        for (String word : WORDS) {
            fine(" " + word + with(word), " " + word.toLowerCase() + with(word));
            if (!List.of("H", "T", "TR").contains(word)) breaks(" " + word, "Z", "1", "(", ";", ",", "\"");
            for (int n = 1; n < word.length(); n++) {
                String part = word.substring(0, n);
                if (List.of(WORDS).contains(part)) continue;
                breaks(" " + part, "", " ", ":1", "(", "\n");
            }
        }
        for (char c : "ACOPUVYZacz0@_\"$^(".toCharArray()) breaks(" ", "" + c);
        says("then one blank and ARGUMENTS with , between; or, of those that may be without, two blanks or the line's end");
        for (String word : new String[] {"G", "GOTO", "HANG", "I", "IF", "J", "M", "R", "S", "W", "X", "XECUTE"}) {
            breaks(" " + word, "", "\n");
            breaks(" " + word + " ", "", " ", "\n", " W 1", ",");
        }
        for (String word : new String[] {"B", "E", "ELSE", "HALT", "TC", "TRE", "TRO", "TCOMMIT"}) breaks(" " + word + " ", "1", "A", "W 1", "@A", ",", "(");
        fine(" W 1,2", " K A,B", " N A,B", " D A,B", " L A,B", " S A=1,B=2", " H 1,2", " I 1,2", " R A,B", " X 1,2", " M A=B,C=D", " G A,B:1", " J A,B");
        for (String front : new String[] {" W 1,", " K A,", " D A,", " S A=1,", " I 1,", " L A,", " N A,"}) breaks(front, "", " ", ",", "\n", ";");
        says("Q(UIT) one e, or none");
        fine(" Q", " Q 1", " Q 1+1", " Q:1 1");
        breaks(" Q 1", ",2", ",", ":1");
        breaks(" Q ", ",", "*1", "!");
    }

    private static void conditions() {
        says("perhaps a CONDITION, : and an expression");
        for (String word : WORDS) {
            boolean none = List.of("E", "ELSE", "F", "FOR", "I", "IF").contains(word);
            if (none) {
                breaks(" " + word, ":1", ":1 1", ":");
            } else {
                fine(" " + word + ":1" + with(word), " " + word + ":A=B!(C)" + with(word));
                breaks(" " + word + ":", "", " ", " 1", ",", ":");
                if (with(word).isEmpty()) fine(" " + word + ":1  ", " " + word + ":1  W 1");
                breaks(" " + word + ":1", ":1", ",2");
            }
        }
        says("(H with an argument is HANG.)");
        House h = house("H 5 W 1", "H:1 5 W 1", "H:1", "H");
        turns(h, 20);
        due("H 5", h.house.state(0, 0), 2);
        due("H:1 5", h.house.state(1, 0), 2);
        due("H:1", h.house.state(2, 0), 4);
        due("H", h.house.state(3, 0), 4);
        says("Each argument of D, G, X may have a condition of its own behind it");
        fine(" D A:1", " D A:1,B:2,C", " D A(1):1,^B:A", " D +1:1", " G A:1,B", " X 1:1,2:3", " D @A:1", " G @A:1,@B:1", " X @A:1");
        breaks(" D A:", "", ",", " ");
        breaks(" D A:1", ":2");
        breaks(" G A:1", "(1)");
        breaks(" W 1", ":1");
        breaks(" S A=1", ":1");
        breaks(" H 1", ":1");
        breaks(" K A", ":1");
        breaks(" J A", ":1");
        breaks(" M A=B", ":1");
        breaks(" N A", ":1");
    }

    private static void arguments() {
        says("F(OR): NAME = range , .. , or none; a range: e, e:e or e:e:e");
        fine(" F I=1", " F I=1:2", " F I=1:2:3", " F I=1,2:3,4:5:6", " F", " F  ", " F %=1 W 1");
        breaks(" F I=1:2:3", ":4");
        breaks(" F ", "^I=1", "1", "(I)=1", "@I=1", "$X=1");
        breaks(" F I", "(1)=1", "", " ", ",", ":1");
        breaks(" F I=", "", " ", ",", ":");
        breaks(" F I=1:", "", ":", ",");
        breaks(" F I=1,", "", " ");
        says("K(ILL) ref, or ( NAME , .. ), or none");
        fine(" K A", " K ^A(1)", " K ^(1)", " K (A)", " K (A,B)", " K @A", " K @A@(1)", " K A,(B),C");
        breaks(" K ", "1", "$X", "+A");
        breaks(" K (", "", ")", "^A)", "@A)", "1");
        breaks(" K (A", "(1))", "", " ", "+");
        says("L(OCK) target, or none; a target: perhaps + or -, then ref or ( ref , .. ), then perhaps : e");
        fine(" L A", " L +A", " L -A", " L (A,B)", " L +(A,^B(1)):1", " L -(A):5", " L A:1,+B", " L ^(1)", " L @A", " L +@A", " L @A:1", " L (@A)");
        breaks(" L ", "1", "*A", ":1");
        breaks(" L +", "+A", "-A", "", "1");
        breaks(" L (", "+A)", ")", "", "1");
        breaks(" L A", "+B", "-B");
        breaks(" L A:", "", ":2", ",");
        breaks(" L A:1", ":2");
        says("M(ERGE) ref = ref");
        fine(" M A=B", " M ^A(1)=@B", " M @A=^(1)", " M @A");
        breaks(" M A", "", "_B", ",");
        breaks(" M A=", "1", "", "`x`", "$X", "-B");
        says("N(EW) NAME, or ( NAME , .. ), or none");
        fine(" N", " N A", " N A,B", " N (A)", " N (A,B),C", " N @A");
        breaks(" N ", "^A", "1", "$X");
        breaks(" N (", "", ")", "^A", "1");
        breaks(" N A", "(1)");
        breaks(" N @A", "@(1)", "_B", "=1");
        says("R(EAD) ref, perhaps : e; or a STRING; or format");
        fine(" R A", " R ^A(1):5", " R `x`", " R !", " R !,#,?5,A", " R #!?5", " R @A", " R @A:5", " R @A@(1):5", " R `x`,A:1");
        breaks(" R ", "1", "*A", "$X", "(A)");
        breaks(" R `x`", "_`y`", ":1");
        breaks(" R A", "+1", "=1");
        says("S(ET) to = e, or ( to , .. ) = e; to: ref; $P(IECE)(ref,e[,e[,e]]); $E(XTRACT)(ref[,e[,e]]); $EC(ODE); $ET(RAP)");
        fine(" S A=1", " S (A)=1", " S (A,B(1),^C,^(1),@D)=1", " S $P(A,1)=1", " S $PIECE(A,1,2,3)=1", " S $p(A,1,2)=1", " S $E(A)=1", " S $EXTRACT(A,1,2)=1", " S $EC=1", " S $ECODE=1", " S $ET=1", " S $etrap=1",
            " S ($P(A,1),$E(B),$EC,$ET,C)=1", " S @A", " S @A=1", " S @A@(1)=1");
        breaks(" S ", "1", "`x`", "=1", "-A=1");
        breaks(" S (", "", ")=1", "1)=1");
        breaks(" S $", "X=1", "", "=1", "$A=1", "S=1", "1");
        breaks(" S $P", "=1", " ", "A");
        breaks(" S $P(", "1,2)=1", ")", "$P(A,1),1)=1");
        breaks(" S $P(A", ")=1", "", "+1");
        breaks(" S $P(A,1,2,3", ",4)=1");
        breaks(" S $E", "=1", "A", " ");
        breaks(" S $E(A,1,2", ",3)=1");
        breaks(" S $EC", "(A)=1", "X=1", ":1");
        breaks(" S (A", "=1", "", " ", "+B)=1");
        breaks(" S (A,", ")=1", "1)=1", "(B))=1");
        breaks(" S A", "", " ", "+1", ",B=1");
        breaks(" S A=", "", " ", "=");
        says("TS(TART) none, or *, or ( ), or ( NAME , .. )");
        fine(" TS", " TS *", " TS ()", " TS (A)", " TS (A,B)", " TSTART:1 *", " TS  ");
        breaks(" TS ", "A", "1", "^A", "@A", "!");
        breaks(" TS (", "1", "", "^A", ",");
        breaks(" TS (A", "(1))", "", " ");
        breaks(" TS (A,", ")", "");
        breaks(" TS *", "*", "A");
        says("W(RITE) e, format, or * e");
        fine(" W 1", " W *1", " W *A+1", " W !", " W A!B", " W !,A");
        breaks(" W *", "", "*1", ",", "!");
        says("A format: ! and # in any number, one at least, then perhaps ? e; or ? e");
        fine(" W !", " W #", " W !!##!", " W !?5", " W #?A+1", " W ?5", " W ?(5)", " R !#?5");
        breaks(" W !", "A", "1", "*1", "_");
        breaks(" W ?", "", "!", "?5", " ");
        breaks(" W ?5", "A", "@A", "(1)");
        breaks(" W !?", "", "!", ",");
        says("J(OB) entry, its actuals e alone");
        fine(" J A", " J A(1)", " J A(1,B)", " J A()", " J ^A", " J A^B(1)", " J +1", " J A+1^B", " J A(.5)");
        breaks(" J A(", ",1)", "");
        breaks(" J A(.", "B)", ")", "");
        breaks(" J A(1,", ")", ",2)");
        says("G(OTO) entry without actuals");
        fine(" G A", " G A+1^B", " G +1", " G ^A");
        breaks(" G A", "(1)", "()");
        breaks(" G ^A", "(1)");
        says("X(ECUTE) e");
        fine(" X 1", " X A_B", " X `W 1`");
        breaks(" X ", "", ",", "*1", "!");
    }

    private static void indirect() {
        says("Of all but B, E, F, H(ALT), Q, T.. and J an argument may be @ and an ATOM alone (of D, G, X with its condition behind): ARGUMENT INDIRECTION");
        for (String word : new String[] {"D", "G", "H", "HANG", "I", "K", "L", "M", "N", "R", "S", "W", "X"}) {
            fine(" " + word + " @A", " " + word + " @A,@B", " " + word + " @(A_B)", " " + word + " @`A`", " " + word + " @@A", " " + word + " @-A", " " + word + " @$$A", " " + word + " @A ;");
            breaks(" " + word + " @", "", " ", ",", "\n");
        }
        for (String word : new String[] {"D", "G", "X"}) fine(" " + word + " @A:1", " " + word + " @A:1,@B");
        for (String word : new String[] {"H", "I", "K", "M", "N", "S", "W"}) breaks(" " + word + " @A", ":1");
        for (String word : new String[] {"F", "J", "TS", "B", "E", "HALT", "TC"}) breaks(" " + word + " ", "@A");
        breaks(" F ", "@A=1");
        runs("S A=`B`,B=5 X `Q @A` W 1", "{,M16,}", "S A=`1,2` Q @A", "{,Z3,}");
        says("behind it perhaps @ ( e , .. )");
        fine(" W @A@(1)", " W @A@(1,2,3,4,5,6)", " W @@A@(1)", " W @`A`@(1)+1");
        breaks(" W @A@", "", "B", "1", ")");
        breaks(" W @A@(", "", ")", ",1)");
        breaks(" W @A@(1)", "@(2)", "(1)", "B");
    }

    private static void entries() {
        says("ENTRY: label, or + e, or label + e, then perhaps ^ NAME (a routine); or ^ NAME; then perhaps actuals");
        fine(" D A", " D 12", " D +1", " D A+1", " D 12+1", " D A^B", " D +1^B", " D A+1*2^B", " D ^B", " D A(1)", " D A^B(1)", " D ^B(1)", " D ^B()", " D 1()", " D A+B(2)");
        breaks(" D ", "", "(1)", "`A`", "-1", "$A", ".");
        breaks(" D 12", "A", ".5");
        breaks(" D A", ".5", "%", "-1", "_B");
        breaks(" D A+", "", ":", ",");
        breaks(" D ^", "", "1", "(1)", "@A", " ");
        breaks(" D A^", "", "1", "+1");
        breaks(" D ^B", "+1", "^C", "%");
        says("With + no actuals");
        breaks(" D +1", "(1)", "()");
        breaks(" D A+1^B", "(1)", "()");
        breaks(" D A+`x`", "(1)");
        says("actuals: ( actual , .. ) or ( ): an e, . NAME, or nothing");
        fine(" D A()", " D A(1)", " D A(,)", " D A(.B)", " D A(,.B,,1,)", " D A(.5,.B)", " D A(.%)", " W $$A()", " W $$A(,.B,1)");
        breaks(" D A(.", "", ")", ",", ".B", "^B)", "@B)");
        breaks(" D A(.B", "(1))", "+1", "");
        breaks(" D A(1", "", " ");
        breaks(" D A(1)", "(2)", "+1", "^B");
        says("$$ and an entry without + (an EXTRINSIC)");
        fine(" W $$A", " W $$1", " W $$A^B", " W $$^B", " W $$A+1", " W $$^B(1)_2");
        breaks(" W $$", "", "+1", "(1)", "$A", "`x`");
        breaks(" W $$A^", "", "1");
        says("Of an entry alone, without a routine, that of the line is meant (a text's line has none: M13; of $TEXT: empty)");
        run("A W 1 D B W 3 Q\nB W 2 Q\nC() Q $T(A)", "D ^R", "123");
        run("A W $$C,$T(+1) G B\nB W 2 Q\nC() Q 5", "D ^R", "5A W $$C,$T(+1) G B2");
        runs("D A", "{,M13,}", "G A", "{,M13,}", "J A", "{,M13,}", "W $$A", "{,M13,}", "D +1", "{,M13,}", "W `[`,$T(A),$T(+1),$T(+0),`]`", "[]", "X `D A`", "{,M13,}");
        run("A X `W $T(A),1 D B`\nB W 2", "D ^R", "1{,M13,}");
        run("A S X=`B` D @X W 3 Q\nB W 2 Q", "D ^R", "23");
        run("A S $ET=`D B` W 1/0\nB W 2 Q", "D ^R", "{,M9,M13,}");
    }

    private static void expressions() {
        says("EXPRESSION e: ATOM, then perhaps operator and ATOM, again and again");
        String[] operators = {"_", "+", "-", "*", "/", "\\", "#", "**", "=", "<", ">", "[", "]", "]]", "&", "!"};
        for (String o : operators) {
            fine(" S X=A" + o + "B", " S X=A" + o + "B" + o + "C");
            breaks(" S X=A" + o, "", " ", ")");
        }
        for (String o : new String[] {"=", "<", ">", "[", "]", "]]", "&", "!"}) fine(" S X=A'" + o + "B");
        for (String o : new String[] {"_", "+", "-", "*", "/", "\\", "#", "'", "A", "1", "("}) breaks(" S X=A'", o + "B");
        breaks(" S X=A=", "=B", "<B", "]B");
        breaks(" S X=A]]", "]B");
        breaks(" S X=A**", "*B");
        fine(" S X=A--B", " S X=A'='B", " S X=A-+-'B", " S X=A<-B");
        says("a STRING \"..\", in it \"\" for one \"");
        fine(" W ``", " W ````", " W `a``b`", " W ``````", " W `\u00ff\0`");
        breaks(" W `", "", "\n", "\n`");
        breaks(" W `a", "", "\n");
        breaks(" W `a``", "", "\n");
        breaks(" W ``", "a", "1");
        says("a NUMBER: digits with one point or none, one digit at least, then perhaps E, + or - or nothing, one digit at least (an E behind digits must go on so)");
        fine(" W 1", " W 1.", " W .1", " W 1.1", " W 1E1", " W 1.E1", " W .1E1", " W 1E+1", " W 1E-1", " W 000", " W 1E0000000000");
        breaks(" W .", "", "E1", "A", ".", " ");
        breaks(" W 1.1", ".1", "A", "e1");
        breaks(" W 1E", "", "A", "E", ".", " ", ")");
        breaks(" W 1E+", "", "+1", "-", "A");
        breaks(" W 1E1", "E1", "A", ".", "\"");
        says("its value is the text of the number that is read so (too great: M92, when it is worked out)");
        runs("W 010,1.50,.0,1E2", "101.50100", "W 1 W:0 1E30 W 2 W $S(1:3,1:1E30),1E30", "123{,M92,}", "W 1E30", "{,M92,}");
        fine(" W 1E30", " W 1E99999");
        says("REF: NAME, ^ NAME, each perhaps with ( e , .. ) (1 to 6); ^ ( e , .. ) the NAKED one; @ ATOM");
        fine(" W A(1)", " W A(1,2,3,4,5,6)", " W ^A(1,2,3,4,5,6)", " W ^(1)", " W ^(1,2,3,4,5,6)", " W @A", " W %(1)");
        breaks(" W A(", "", ")", ",1)", " 1)");
        breaks(" W A(1", "", " ", ":2)");
        breaks(" W A(1,", "", ")");
        breaks(" W ^", "", "1", "@A", "$A", " ", "`a`");
        breaks(" W ^(", "", ")");
        breaks(" W @", "", ")", ",", " ");
    }

    /** What may stand in the bracket of a function. */
    private static String bracket(String function) {
        switch (List.of(FUNCTIONS).indexOf(function) / 2) {
            case 2: case 6: case 9: case 10: case 14: case 18: return "A";
            case 4: case 5: case 7: case 11: case 13: case 19: return "1,2";
            case 17: return "1:2";
            default: return "1";
        }
    }

    private static void functions() {
        says("FUNCTIONS (capital or small, up to the bracket or whole)");
        for (String f : FUNCTIONS) {
            fine(" W $" + f + "(" + bracket(f) + ")", " W $" + f.toLowerCase() + "(" + bracket(f) + ")");
            for (int n = 1; n < f.length(); n++) {
                String part = f.substring(0, n);
                if (List.of(FUNCTIONS).contains(part) || List.of(SPECIALS).contains(part)) continue;
                breaks(" W $" + part, "", "(" + bracket(f) + ")", "1", " ", "Z");
            }
            breaks(" W $" + f, f.length() > 2 ? "Z" : "%");
            if (!List.of(SPECIALS).contains(f)) breaks(" W $" + f, "", ",", " ", "+1");
            breaks(" W $" + f + "(", "", ")", ",");
            breaks(" W $" + f + "(" + bracket(f), "", " ");
        }
        says("SPECIALS");
        for (String s : SPECIALS) {
            fine(" W $" + s, " W $" + s.toLowerCase() + "+1");
            if (!List.of(FUNCTIONS).contains(s)) breaks(" W $" + s, "(1)", "(", "Z", "%");
        }
        breaks(" W $", "", "1", " ", "B", "I", "K", "M", "U", "V", "W", "Z", "%", "(", "@");
        says("(e[,e])");
        for (String one : new String[] {"R(1", "RE(1", "QL(1", "D(A", "Q(A", "T(A"}) breaks(" W $" + one, ",1)");
        for (String two : new String[] {"A(1,1", "FN(1,1", "G(A,1", "L(1,1", "NA(A,1", "O(A,1", "QS(1,1"}) breaks(" W $" + two, ",1)");
        for (String three : new String[] {"E(1,1,1", "F(1,1,1", "J(1,1,1", "TR(1,1,1"}) breaks(" W $" + three, ",1)");
        breaks(" W $P(1,1,1,1", ",1)");
        for (String few : new String[] {"F(1", "FN(1", "J(1", "P(1", "QS(1", "TR(1", "S(1"}) breaks(" W $" + few, ")");
        for (String ref : new String[] {"D", "G", "NA", "O", "Q"}) {
            fine(" W $" + ref + "(A)", " W $" + ref + "(^A(1))", " W $" + ref + "(^(1))", " W $" + ref + "(@A)");
            breaks(" W $" + ref + "(", "1)", "`A`)", "-A)", "$X)", "(A))");
            breaks(" W $" + ref + "(A", "+1)", "_B)");
        }
        fine(" W $T(A)", " W $T(+1)", " W $T(A+1^B)", " W $T(^B)", " W $T(1^B)");
        breaks(" W $T(A", "(1))", "_B)");
        fine(" W $S(1:2)", " W $S(1:2,3:4,5:6)", " W $S(" + repeated("1:2", 60, ",") + ")");
        breaks(" W $S(1", ",2:3)", ")");
        breaks(" W $S(1:2", ":3)");
        breaks(" W $S(1:2,", ")", ":");
    }

    private static void patterns() {
        says("PATTERN: one or more of: a COUNT (n, n.m, n., .m or . : digits, 3 at most) and CODES (one or more of A C E L N P U, capital or small), a STRING, or ( pattern , .. )");
        fine(" W A?1A", " W A?1.2A", " W A?1.A", " W A?.2A", " W A?.A", " W A?999ACELNPU", " W A?123.456acelnpu", " W A?1`x`", " W A?1``", " W A?1(1A)", " W A?1(1A,2N)", " W A?1(1A.N1`x`,2N)3E",
            " W A'?1A", " W A?1A=1", " W A?1A,B", " W A?0A", " W A?3.1A");
        breaks(" W A?", "", "A", "`x`", "(1A)", " ", "-", "E");
        breaks(" W A?1", "", " ", "B", "X", ",", ")", "'", "-");
        breaks(" W A?1.", "", ".A", "B", "-");
        breaks(" W A?1.2", "", ".A", "x");
        breaks(" W A?1A2", "", ",", "=");
        breaks(" W A?1A", "B", "X", "`x`", "(1A)");
        breaks(" W A?1(", "", "A", ")", "`x`", "@A)");
        breaks(" W A?1(1A", "", " ", "=");
        breaks(" W A?1(1A,", "", ")", "A");
        says("with no ( in these patterns");
        breaks(" W A?1(1A1", "(1A))");
        breaks(" W A?1(1", "(1A))");
        says("and ? or '? with a PATTERN (or @ ATOM) behind it");
        fine(" W A?@B", " W A'?@B", " W A?@(B_C)", " W A?@B=1");
        breaks(" W A?@", "", ",", " ", ")");
        breaks(" W A?@B", "@(1)", ".5");
    }

    private static void tooLong() {
        says("a name or digits too long (each at its first byte)");
        String name = "ABCDEFGH";
        String[] fronts = {"", "A(", "A(B,", " W ", " W 1+", " W ^", " W A(", " W $D(", " S ", " S (A,", " S A=", " K ", " K (", " K (A,", " N ", " N (", " N (A,", " TS (", " TS (A,", " F ", " L ", " L +(A,", " M ", " M A=", " R ", " D ",
            " D ^", " D A^", " G ", " J ", " W $$", " W $$^", " W $$A^", " W $T(", " W $T(^", " D A(.", " D A(1,.", " W @", " W A?@", " Q ", " I ", " X ", " H ", " D A+"};
        for (String front : fronts) {
            int bad = fault(front + name);
            due("8 bytes behind " + front, bad == -1 || bad >= front.length() + 8 ? 1 : bad, 1);
            faultAt(front + name + "I", front.length());
            faultAt(front + name + "IJKLM(((", front.length());
            faultAt(front + "%2345678901", front.length());
        }
        for (String front : new String[] {"", " D ", " G ", " J ", " W $$", " W $T("}) {
            int bad = fault(front + "12345678");
            due("8 digits behind " + front, bad == -1 || bad >= front.length() + 8 ? 1 : bad, 1);
            faultAt(front + "123456789", front.length());
            faultAt(front + "000000000(", front.length());
        }
        for (String front : new String[] {" W A?", " W A?1.", " W A?.", " W A?1A", " W A?1(", " W A?1(1A,"}) {
            int bad = fault(front + "123");
            due("3 digits behind " + front, bad, front.length() + 3);
            faultAt(front + "1234", front.length());
            faultAt(front + "0001A", front.length());
        }
        says("a string in it of more than 250 bytes (at its first byte)");
        for (String front : new String[] {" W ", " W 1_", " R ", " W A?1", " W A?1(1", " S A(", " X ", " D A:", " W $A("}) {
            int bad = fault(front + "`" + "x".repeat(250) + "`");
            due("250 bytes behind " + front, bad == -1 || bad >= front.length() + 252 ? 1 : bad, 1);
            faultAt(front + "`" + "x".repeat(251) + "`", front.length());
            faultAt(front + "`" + "x".repeat(251), front.length());
            faultAt(front + "`" + "x".repeat(250), front.length() + 251);
            faultAt(front + "`" + "x".repeat(250) + "\n", front.length() + 251);
            faultAt(front + "`" + "x".repeat(249) + "``", front.length() + 252);
            faultAt(front + "`" + "x".repeat(250) + "``", front.length());
            faultAt(front + "`" + "``".repeat(251), front.length());
        }
        fine(" W `" + "``".repeat(250) + "`", " W `" + "x".repeat(250) + "`_`" + "y".repeat(250) + "`");
    }

    private static void open() {
        says("a ( of any kind, or + - ' @ of an ATOM, with which more than 15 would be open");
        // each of these opens one more: in 14 brackets it is the 15th, in 15 the 16th
        String[] kinds = {"(1)", "A(1)", "^A(1)", "^(1)", "$A(1)", "$D(A)", "$S(1:2)", "$T(A)", "$$A(1)", "$$A()", "-1", "+1", "'1", "@A", "A?1(1A)", "A?@B"};
        int[] at = {0, 1, 2, 1, 2, 2, 2, 2, 3, 3, 0, 0, 0, 0, 3, 2};
        for (int i = 0; i < kinds.length; i++) {
            fine(" W " + "(".repeat(14) + kinds[i] + ")".repeat(14));
            faultAt(" W " + "(".repeat(15) + kinds[i] + ")".repeat(15), 3 + 15 + at[i]);
            fine(" W " + "-".repeat(14) + (kinds[i].startsWith("A?") ? "(" + kinds[i].substring(0, 1) + ")" : kinds[i]));
            if (!kinds[i].startsWith("A?")) faultAt(" W " + "-".repeat(15) + kinds[i], 3 + 15 + at[i]);
        }
        for (String front : new String[] {" M A(", " M ^A(1,", " M A=B(", " R A(", " R A:", " K A(", " K A,B(", " S A(", " S A(1,", " S ^A(1,2,3,4,5,", " L A(", " L -A(1,", " L A:", " L (A):", " M @A@(", " K @A@(", " R @A@(", " S @A@(1,", " W $D(A(", " W $G(A(", " W $G(A,", " W $NA(A,", " W $O(A(", " W $O(A,", " W $Q(A(1,",
            " W $T(+", " W $T(A+", " W ?", " W !?", " R !?", " R ?", " TS:", " Q:", " Q ", " F I=", " F I=1:1:", " F I=1,2:", " X 1:", " D A:", " W A(1,", " W ^A(1,2,", " W ^(1,", " W $P(A,B,C,", " W $S(1:2,", " W $S(1:", " D A(1,2,", " W $$A(.B,", " S $P(A,", " S $P(A,1,2,", " S $E(A,1,", " S ($P(A,1),$E(B,", " W A?1A,", " D A+", " G +", " J A+", " J A(1,"}) {
            int left = 15 - front.replaceAll("[^(]", "").length() + front.replaceAll("[^)]", "").length();
            int bad = fault(front + "(".repeat(left) + "1" + ")".repeat(left));
            due("15 behind " + front, bad == -1 || bad >= front.length() + 2 * left + 1 ? 1 : bad, 1);
            faultAt(front + "(".repeat(left + 1), front.length() + left);
            faultAt(front + "-".repeat(left + 1), front.length() + left);
        }
        says("(a text of its own)");
        runs("S A=5,X=`A`_$TR($J(``,15),` `,`(`)_1_$TR($J(``,15),` `,`)`),@X=7 W A(1)", "7", "S A=5,X=`A`_$TR($J(``,16),` `,`(`)_1_$TR($J(``,16),` `,`)`),@X=7 W A(1)", "{,Z3,}", "S X=$TR($J(``,15),` `,`-`)_1 W @X", "-1", "S X=$TR($J(``,16),` `,`-`)_1 W @X", "{,Z3,}",
            "S X=`W `_$TR($J(``,15),` `,`(`)_1_$TR($J(``,15),` `,`)`) X X", "1", "S X=`W `_$TR($J(``,16),` `,`(`)_1_$TR($J(``,16),` `,`)`) X X", "{,Z3,}");
        says("a ( of any kind, or + - ' @ of an ATOM, with which more than 15 would be open");
        String[] fronts = {" S (", " S (A,", " L (", " L +(A,", " S $P(", " S $E(", " D A(", " J A(1,", " D ^A(", " K A(", " W @A@(", " W $$A(", " S ($P(", " S ($E(", " W $S(1:", " W $C(1,"};
        int[] opened = {1, 1, 1, 1, 1, 1, 1, 1, 1, 1, 1, 1, 2, 2, 1, 1};
        for (int i = 0; i < fronts.length; i++) {
            boolean ref = i < 6 || i == 12 || i == 13;
            String front = fronts[i] + (ref ? "A(" : "");
            int left = 15 - opened[i] - (ref ? 1 : 0);
            int bad = fault(front + "(".repeat(left) + "1" + ")".repeat(left));
            due("15 behind " + front, bad == -1 || bad >= front.length() + 2 * left + 1 ? 1 : bad, 1);
            faultAt(front + "(".repeat(left + 1), front.length() + left);
            faultAt(front + "'".repeat(left + 1), front.length() + left);
        }
        says("(a sign and @ till their ATOM ends)");
        fine(" W " + "(".repeat(14) + "-1+(1)" + ")".repeat(14), " W " + "(".repeat(14) + "@A+(1)" + ")".repeat(14), " W " + "(".repeat(14) + "@A@(1)" + ")".repeat(14), " W " + "(".repeat(15) + "1-1" + ")".repeat(15),
            " W " + "(".repeat(15) + "1'=1" + ")".repeat(15), " W " + "-1+".repeat(20) + "1", " W " + "(1)+".repeat(20) + "1", " W " + "@A+".repeat(20) + "1", " W " + "(".repeat(14) + "A?@B+(1)" + ")".repeat(14));
        faultAt(" W " + "(".repeat(14) + "-(1)" + ")".repeat(14), 3 + 15);
        faultAt(" W " + "(".repeat(14) + "-A(1)" + ")".repeat(14), 3 + 16);
        faultAt(" W " + "(".repeat(14) + "@A(1)" + ")".repeat(14), 3 + 16);
        faultAt(" W " + "(".repeat(14) + "--1" + ")".repeat(14), 3 + 15);
        faultAt(" W " + "(".repeat(15) + "@A@(1)" + ")".repeat(15), 3 + 15);
        faultAt(" W " + "@".repeat(15) + "A(1)", 3 + 16);
        faultAt(" W " + "@".repeat(16) + "A", 3 + 15);
        faultAt(" W @" + "(".repeat(15), 4 + 14);
        faultAt(" W " + "(".repeat(13) + "A?@-(1)", 3 + 13 + 4);
    }

    private static void many() {
        says("a seventh subscript");
        for (String front : new String[] {" W A(", " W ^A(", " W ^(", " W @A@(", " K A(", " S A(", " L (A("}) {
            int bad = fault(front + "1,2,3,4,5,6)");
            due("six behind " + front, bad == -1 || bad >= front.length() + 12 ? 1 : bad, 1);
            faultAt(front + "1,2,3,4,5,6,7)", front.length() + 12);
            faultAt(front + "1,2,3,4,5,6,", front.length() + 12);
            faultAt(front + "1,2,3,4,5,6,)", front.length() + 12);
        }
        says("a 21st formal, actual, to, ref, NAME of a list in ( ), e of $CHAR (at its first byte)");
        String formals = "", more = "";
        for (int i = 0; i < 20; i++) formals += (i > 0 ? "," : "") + "A" + i;
        for (int i = 0; i < 19; i++) more += "B" + i + ",";
        faultAt("A(" + formals + ")", -1);
        faultAt("A(" + formals + ",B)", 2 + formals.length() + 1);
        faultAt("A(" + formals + ",", 2 + formals.length() + 1);
        faultAt("A(" + more + "B0)", 2 + more.length());
        faultAt("A(" + formals + ",A0)", 2 + formals.length() + 1);
        twenty(" D A(", "1", ")");
        twenty(" D A(", "", ")");
        twenty(" D A(", ".B", ")");
        twenty(" J A(", "1", ")");
        twenty(" W $$A(", "1", ")");
        twenty(" W $$^A(", "", ")");
        twenty(" S (", "A", ")=1");
        twenty(" S (", "$EC", ")=1");
        twenty(" S (", "$P(A,1)", ")=1");
        twenty(" L (", "A", ")");
        twenty(" L +(", "^A(1)", ")");
        twenty(" K (", "A", ")");
        twenty(" N (", "A", ")");
        twenty(" TS (", "A", ")");
        twenty(" W $C(", "1", ")");
        twenty(" W $CHAR(", "A", ")");
        fine(" K " + repeated("A", 30, ","), " N " + repeated("A", 30, ","), " S " + repeated("A=1", 30, ","), " L " + repeated("A", 30, ","), " D " + repeated("A", 30, ","), " W " + repeated("1", 200, ","));
    }

    private static void twenty(String front, String one, String behind) {
        fine(front + repeated(one, 20, ",") + behind);
        int at = front.length() + 20 * (one.length() + 1);
        faultAt(front + repeated(one, 21, ",") + behind, at);
        faultAt(front + repeated(one, 20, ",") + ",", at);
        faultAt(front + repeated(one, 20, ",") + ",(", at);
    }
}

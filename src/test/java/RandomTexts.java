import java.util.ArrayList;
import java.util.Collections;
import java.util.HashMap;
import java.util.List;
import java.util.Map;
import java.util.Random;

/**
 * Texts by chance, by rules: in an alternative {x} is the rule x one step less deep (x0 at the bottom, if it is told),
 * {x,} one to three of it with commas between, {x?} perhaps nothing, {"x} a string of it, {n5} a number below 5.
 */
final class RandomTexts {
    private final Map<String, String[]> rules = new HashMap<>();
    final Random random;

    RandomTexts(long seed) {
        random = new Random(seed);
        words();
        expressions();
        commands();
        lines();
        inHand();
        transactions();
        rooms();
    }

    private void rule(String name, String... alternatives) {
        rules.put(name, alternatives);
    }

    int below(int n) {
        return random.nextInt(n);
    }

    boolean chance(int percent) {
        return below(100) < percent;
    }

    String pick(String... all) {
        return all[below(all.length)];
    }

    /** A text by a rule. */
    String of(String name, int depth) {
        String[] all = depth <= 0 && rules.containsKey(name + "0") ? rules.get(name + "0") : rules.get(name);
        if (all == null) throw new IllegalArgumentException(name);
        String alternative = pick(all);
        StringBuilder b = new StringBuilder();
        int at = 0;
        for (int open = alternative.indexOf('{'); open >= 0; open = alternative.indexOf('{', at)) {
            int close = alternative.indexOf('}', open);
            b.append(alternative, at, open).append(told(alternative.substring(open + 1, close), depth - 1));
            at = close + 1;
        }
        return b.append(alternative.substring(at)).toString();
    }

    private String told(String what, int depth) {
        String name = what.substring(0, what.length() - 1);
        if (what.startsWith("n") && Character.isDigit(what.charAt(1))) return "" + below(Integer.parseInt(what.substring(1)));
        if (what.equals("\"commands")) return quoted(of("commands", depth).stripTrailing());
        if (what.startsWith("\"")) return quoted(of(what.substring(1), depth));
        if (what.endsWith("?")) return chance(60) ? "" : of(name, depth);
        if (!what.endsWith(",")) return of(what, depth);
        StringBuilder b = new StringBuilder(of(name, depth));
        for (int i = chance(65) ? 0 : 1 + below(2); i > 0; i--) b.append(',').append(of(name, depth));
        return b.toString();
    }

    static String quoted(String s) {
        return '"' + s.replace("\"", "\"\"") + '"';
    }

    private void words() {
        rule("name", "A", "A", "A", "B", "B", "C", "X", "X", "Y", "I", "%", "%a", "AB", "ABCDEFGH", "z9");
        rule("global", "A", "A", "B", "B", "G", "G", "C", "H", "AB", "%", "GGGGGGGG", "E");
        rule("label", "L1", "L2", "L3", "L4", "F1", "F2", "F3", "B1", "7", "08", "NOPE");
        rule("routine", "R", "R", "R", "R", "R", "R", "S", "NONE");
        rule("number", "{n10}", "{n4}", "1", "0", "{n100}.{n100}", ".{n1000}", "{n10}.", "{n100}E{n4}", "{n10}E-{n32}", "{n10}E+{n32}", "0{n10}",
            "{n999999999}", "1234567890123456789{n99}");
        rule("small", "{n5}", "{n5}", "{n5}", "{n5}", "-{n3}", "1.9", "260", "1E9", "-1E20", "\"2x\"", "\"1E40\"");
        rule("raw", "", "a", "abc", "a,b,c", "{number}", "-{number}", "+-{number}x", "{number}E", "aXbXc", "A", "A(1)", "a\"b", "1.0", "00", "-0", ".5",
            "-.5", "1E2", "--1", "^A", "B(2,\"x\")", ",M9,", "x{n10}", "{byte}{byte}{byte}", "yyyyyyyyyyyyyyyyyyyyyyyyyyyyyyyyyyyyyyyyyyyyyyyyyyyyyyyyyyyyyyyyyy");
        String[] bytes = new String[255];
        for (int i = 0; i < bytes.length; i++) bytes[i] = "" + (char) (i == 10 || i == '{' || i == '}' ? 255 : i);
        rule("byte", bytes);
        rule("condition", "", "", "", "", "", "", ":1", ":0", ":$T", ":'$T", ":$G(A)", ":{expr}");
    }

    private void expressions() {
        rule("subscript", "{n4}", "{n4}", "\"a\"", "\"b\"", "\"\"", "\"1\"", "\"a\"\"b\"", "\"-1\"", ".5", "{expr}");
        rule("subscripts", "({subscript})", "({subscript})", "({subscript},{subscript})", "({subscript,})");
        rule("ref0", "{name}", "{name}", "^{global}", "{name}(1)", "^{global}(1)");
        rule("ref", "{name}", "{name}{subscripts}", "{name}{subscripts}", "^{global}", "^{global}{subscripts}", "^{global}{subscripts}", "^{subscripts}",
            "@{\"refText}", "@{name}", "@{\"refText}@{subscripts}", "@({expr})");
        rule("refText", "{name}", "{name}({n3})", "^{global}({n3})", "^({n3})", "{ref}", "A(", "1", "", "@A", "@@B", "A B", "A(1,2,3,4,5,6)");
        rule("part", "{count}{codes}", "{count}{codes}", "{count}{\"raw}", "{count}({plain},{plain})");
        rule("plain", "{count}{codes}", "{count}{codes}{count}{\"raw}");
        rule("count", "1", ".", "2", "1.3", ".2", "1.", "0", "3.", "0.1", "2.1");
        rule("codes", "N", "A", "E", "n", "AN", "PU", "L", "C", "aL");
        rule("pattern", "{part}", "{part}{part}", "{part}{part}{part}");
        rule("operator", "_", "_", "+", "-", "*", "/", "\\", "#", "**", "=", "<", ">", "[", "]", "]]", "&", "!", "'=", "'<", "'[", "'&", "']]");
        rule("special", "$T", "$TEST", "$J", "$ST", "$X", "$Y", "$TL", "$tr", "$Q", "$H", "$EC", "$ET");
        rule("entryText", "L1^R", "+1^R", "+0^R", "L1+1^R", "F1^R", "+0", "L1", "NOPE^R", "+99^R", "+0^NONE", "7^R", "L1+{small}^R", "+{small}^R");
        rule("actual", "{expr}", "{expr}", ".{name}", "");
        rule("actuals", "()", "({actual})", "({actual},{actual})", "({actual},{actual},{actual})");
        rule("call", "$$F1^R{actuals}", "$$F2^R{actuals}", "$$F3^R{actuals}", "$$F1^R", "$${label}^{routine}{actuals}");
        rule("node text", "A(1)", "^A", "A(\"x\")", "^B(\"a\",2,.5)", "A(01)", "A()", "A(\"1\")", "A(\"\")", "A(1", "A(1))", "A(1,\"a\"\"b\")");
        rule("expr0", "{number}", "{number}", "{\"raw}", "{name}", "$G({name})", "$G({name})", "{special}");
        rule("atom", "{expr0}", "({expr})", "{ref}", "-{atom}", "'{atom}", "+{atom}");
        rule("expr", "{number}", "{\"raw}", "{ref}", "{ref}", "$G({ref})", "$GET({ref},{expr})", "{expr}{operator}{atom}", "{expr}{operator}{atom}",
            "{expr}{operator}{atom}", "{expr}{operator}{atom}", "{atom}", "{expr}?{pattern}", "{expr}'?{pattern}", "{expr}?@{\"pattern}", "$A({expr})",
            "$ASCII({expr},{small})", "$C({n256})", "$C(65,{expr},{small})", "$D({ref})", "$E({expr})", "$e({expr},{small})",
            "$EXTRACT({expr},{small},{small})", "$F({expr},{expr})", "$FIND({expr},{expr},{small})", "$FN({number},\",\")", "$FN({expr},\"+-,\")",
            "$J({expr},{small})", "$JUSTIFY({expr},{small},{small})", "$L({expr})", "$L({expr},{expr})", "$NA({ref})", "$NAME({ref},{small})",
            "$O({ref})", "$O({ref},-1)", "$ORDER({ref},{small})", "$P({expr},{\"raw})", "$P({expr},\",\",{small})", "$PIECE({expr},\",\",{small},{small})",
            "$QL($NA({ref}))", "$QL({\"node text})", "$QS($NA({ref}),{n4})", "$QSUBSCRIPT({\"node text},{n4})", "$Q({ref})", "$QUERY({ref})", "$R({n20})",
            "$RANDOM({expr})", "$RE({expr})", "$S({expr}:{expr})", "$SELECT({expr}:{expr},1:{expr})", "$T({entryText})", "$TR({expr},{expr})",
            "$TRANSLATE({expr},{expr},{expr})", "{call}", "{call}", "{special}");
    }

    private void commands() {
        rule("target", "{ref}", "{ref}", "{ref}", "$P({ref},\",\",{small})", "$p({ref},{\"raw},{small},{small})", "$E({ref},{small})", "$E({ref},{small},{small})");
        rule("set", "{target}={expr}", "{target}={expr}", "{target}={expr}", "({target},{target})={expr}", "$EC={code}", "$ET={\"trap}", "@\"{name}={n9}\"");
        rule("code", "\"\"", "\",U1,\"", "\"x\"", "\",,\"", "{expr}");
        rule("trap", "", "S $EC=\"\" W 9", "W 8", "G L2^R", "S $EC=\"\" G L2^R", "S $EC=\"\" Q 7", "Q", "W 1/0", "TRE", "S $EC=\"\" D  W 6", "(",
            "TS () S ^A=1 TC  S $EC=\"\"");
        rule("write", "!", "#", "!!#?{n12}", "?{n12}", "*{n258}", "@\"1,!\"", "{expr}", "{expr}", "{expr}", "{expr}");
        rule("names", "({name,})");
        rule("entry", "L1^R", "L2^R", "L3^R", "L4^R", "F1^R", "B1^R", "L1", "L2+{n3}^R", "+{n5}^R", "^{routine}", "{label}^{routine}");
        rule("do", "{entry}", "{entry}", "L1^R{actuals}", "F1^R{actuals}", "L2^R{actuals}", "@{\"entry}", "{entry}:{expr}");
        rule("range", "1:1:{n4}", "1:1:{n4}", "\"a\",{n3}", "{n4}:-1:{n3}", "{expr}:1:{n4}", "{n3}:{expr}:{n4}", "1,2:1:3,5", "1:1");
        rule("for", "F I={range} {commands}", "F J={range} {commands}", "F I={range} Q:I>1  {commands}", "F  Q:$R(3)=0  {commands}");
        rule("lock node", "{name}", "{name}({n3})", "^{global}", "^{global}({n3})", "^{global}({n2},{n2})", "^({n2})", "@\"^A(1)\"");
        rule("lock", "{sign}{lock node}", "{sign}{lock node}:{n4}", "{sign}({lock node},{lock node})", "{sign}({lock node,}):{n2}");
        rule("sign", "", "+", "+", "-");
        rule("read", "{ref}", "{ref}:{n3}", "\"?\"", "!", "{name}:2");
        rule("command", "S{condition} {set,}", "SET{condition} {set,}", "s {set}", "S {set,}", "S {set}", "W{condition} {write,}", "W {write,}", "WRITE {write,}",
            "W {write}", "K{condition} {ref,}", "K {names}", "K ", "N{condition} {name,}", "N {names}", "N ", "D{condition} {do}", "D {do,}",
            "X{condition} {\"commands}", "X {\"commands}", "X {expr}", "I {expr}", "I {expr},{expr}", "E ", "B ", "M {ref}={ref}", "M{condition} {ref}={ref}",
            "Q{condition} ", "Q {expr}", "G {entry}:{expr}", "G {entry}", "{for}", "{for}", "D ", "TS ()", "TS (A,B)", "TS *", "TS ", "TC ", "TC ", "TRO ",
            "TRE:$TR<2 ", "TS () S ^{global}({n3})={n9} TC ", "S ^({n4})={n10}", "W $G(^({n4}))");
        rule("shared", "L {lock,}", "L{condition} {lock}", "L ", "H {n4}", "H -1", "J L1^R{values}", "J F1^R{values}", "J {entry}", "R {read,}",
            "TS () S ^{global}({n2})=$G(^{global}({n2}))+1 W $TR TC ", "TS * S ^{global}={n5},A=$G(A)+1 W A TC ", "{command}", "{command}", "{command}", "HALT ");
        rule("values", "()", "({expr})", "({expr},{expr})", "");
        rule("commands", "{command}", "{command} {command}", "{command} {command} {command}");
        rule("shared commands", "{shared}", "{shared} {shared}", "{shared} {shared} {shared}");
    }

    private void lines() {
        rule("own trap", "", "S $ET=\"S $EC=\"\"\"\"\" ", "S $ET=\"W $EC S $EC=\"\"\"\"\" ", "S $ET=\"S $EC=\"\"\"\" W $ST,$T Q\" ", "S $ET=\"S $EC=\"\"\"\" Q 5\" ");
        rule("flow", "G {flow entry}", "G:Z<9 {flow entry}", "D ", "D ", "D ", "D {flow entry}", "F I=1:1:{n4}", "I {n2}", "I $T", "E ", "Q ", "Q:Z>20 ", "Q:$T ",
            "X {\"flow text}", "W $$A^R", "W $$B^R", "W 1/0", "S $ET={\"flow text}", "Q {n5}", "W $ST,$T,$Q", "F  Q:Z>15  S Z=Z+1", "S Z=Z+1 W Z,\",\"");
        rule("flow entry", "A", "B", "C", "D", "A^R", "B^R", "C^R", "D+1", "B+1", "C+2^R");
        rule("flow text", "G A^R", "D A^R", "Q", "S $EC=\"\" G B^R", "S $EC=\"\" W 9", "S $EC=\"\" D  W 6", "S $EC=\"\" Q 4", "W 1/0", "W $$A^R", "F  Q", "",
            "S $EC=\",U1,\"", "F I=1:1:2 G D^R");
        rule("loop", "F  ", "F I=1 ", "F I=1:1:2 ", "F J=1:1 ", "F K=$$B^R(N) ");
        rule("loops", "A(N) W N,\",\" {loop}{loop}{loop}{again} Q:$R(2) \n Q\nB(N) Q N\nD H 1 J D^R", "A(N) W N,\",\" {loop}{again}\n Q 1\nB(N) Q N\nD S A=1 J D^R H 2",
            "A(N) {loop}{loop}J D^R W I\n Q\nB(N) Q N\nD W $J Q");
        rule("again", "D A^R(N+1)", "X \"D A^R(N+1)\"", "W $$A^R(N+1)", "D @\"A^R(N+1)\"");
    }

    private void inHand() {
        rule("deep0", "$$F^R(N-1)", "$$F^R(N-1,1)", "$$G^R(N-1)", "$$H^R(N-1)", "$$F^R(N-1,.A,2)");
        rule("deep", "1_({deep})", "({deep})_1", "$C(65,66,{deep})", "$P(\"a,b\",\",\",{deep},3)", "$G(A(1,2,{deep}),4)", "$G(A(1),{deep})", "$O(A(1,2),{deep})",
            "@\"C\"@(1,2,{deep})", "@(\"C(1,2,\"_{deep}_\")\")", "$S(0:2,{deep}:3)", "$S(1:{deep})", "-{deep}", "{deep}?1N", "$NA(B(1,{deep}),1)", "$J(1,2,{deep})",
            "1+(2+(3+({deep})))", "@(\"A(\"_\"$$F^R(N-1)\"_\")\")", "$T(+{deep}^R)", "$$F^R(N-1,{deep})", "@\"@\"\"A\"\"@(1,$$G^R(N-1))\"@(2)");
        rule("deep command", "S (A(1),B(2,3),C(1))={deep}", "S (A(1),$P(B(2,3),1,2,3),$E(C(1),1))={deep}", "M A(1,{deep})=B(2)", "M A(1)=B(2,{deep})",
            "L +(A,B(1),C({deep})):0", "D D^R(1,2,{deep},.X)", "F I=1:1:{deep} S Z=1", "X \"S A=1\":{deep}", "I {deep}", "W ?{deep}", "S A=1_{deep}");
        rule("deep routine", "F(N,A,B) Q:N<1 1 {deep command} Q {deep}\nG(N) Q:N<1 1 Q {deep}\nH(N) I N<1 Q 1\n D\n . {deep command}\n Q {deep}\nD(X,Y,Z,V) S Y=1 Q");
        rule("hide", "N {name,}", "N ", "N {names}", "S (A,B,X,A(1),B(2))={n9}", "K {names}", "K {name}", "K ", "F I=1:1:{many} N A", "F I=1:1:{many} N (A,I)",
            "F I=1:1:{many} N A,B", "F I=1:1:{many} S A(I)=I", "D L1^R({by name})", "D L2^R({by name})", "D L3^R", "M A=B", "M A(5)=B", "M A(1)=A", "M X=A", "W $D(A),$D(B),$O(%),$Q(A)",
            "TS * S A=$G(A)+1 N A S A=8 TRE:$TR<2  TC ");
        rule("many", "3", "10", "60", "100", "150", "299", "310", "510");
        rule("by name", ".A", ".A,.B", ".B,.A", "1,2", ".X,.X,.X", ".A,.A", ",,1");
        rule("hide routine", "L1(A,B) {hide} {hide}\n W $G(A,\"-\"),$G(B,\"-\") Q\nL2(X,A,B) {hide} {hide} {hide}\n W $G(A,\"-\") Q\nL3 {hide} {hide}\n Q\nF1(B) {hide}\n Q $G(B,7)");
    }

    private void transactions() {
        rule("own", "TS {kept}", "TS {kept}", "TS ", "TC ", "TC ", "TC ", "TRO ", "TRE:$TR<2 ", "TRE:$TR<3 ", "S ^A({n3})=$G(^A({n3}))+1", "S ^B({n3})=$G(^A({n3}))+1",
            "S ^G({n3})=$G(^B({n3}))+1", "K ^A({n3})", "K ^B", "W $TR,$TL", "F I=1:1:2", "F J=1:1:3", "D ", "D L1^R", "D L2^R", "D L3^R", "X \"TRE:$TR<2 \"", "S A=$G(A)+1",
            "W $$F1^R(1)", "G L2^R:$R(3)=0", "W 1/0", "Q:$R(3)=0 ", "M ^A=^G", "N A", "W $O(^A(\"\")),$Q(^B),$D(^G),$O(^%)");
        rule("kept", "*", "()", "(A)", "(A,B)");
        rule("owns", "{own} {own} {own}", "{own} {own} {own} {own} {own}");
        rule("restart trap", "", "S $ET=\"S $EC=\"\"\"\"\" ", "S $ET=\"S $EC=\"\"\"\" W $TL TRO:$TL  W 5\" ", "S $ET=\"TRE:$TR<3  S $EC=\"\"\"\"\" ", "S $ET=\"S $EC=\"\"\"\" G L3^R\" ",
            "S $ET=\"S $EC=\"\"\"\" TS () S ^A=1 TC \" ");
        rule("own routine", "L1 {restart trap}{owns}\n . {owns}\n {owns}\n Q\nL2 {restart trap}{owns}\n .. {own}\n . {owns}\n Q\nL3 {owns}\n Q\nF1(N) {restart trap}{owns}\n Q 3");
    }

    private void rooms() {
        rule("fill", "F I=1:1:{n900} S ^A(I)=I", "F I=1:1:{n900} S ^B(I)=I", "F I=1:1:{n600} S A(I)=I", "M ^{global}({n3})=^A", "M ^{global}=A", "M A({n3})=^B",
            "TS () F I=1:1:{n60} S ^A(I)=$J(1,{n250}) I I=50 TC", "TS * F I=1:1:{n300} S ^A(I)=1", "TS () F I=1:1:22 S @(\"^X\"_I)=1 W I", "F I=1:1:199 S ^Z(I)=$J(I,250)",
            "F I=1:1:{n70} L +A(I),+^B(I,I)", "L +(A,A(1),B,^C,A):0 W $T L -A,-A", "K ^{global}", "TS () F I=1:1:20 S @(\"^X\"_I_\"(1)\")=1,^A(I)=2 W $O(^X)");
    }

    /** A routine of labels L1 .. L4, F1 .. F3, B1 and 7, in any order, with blocks behind them. */
    String routine(int depth, String commands) {
        StringBuilder b = new StringBuilder();
        List<String> labels = new ArrayList<>(List.of("L1", "L2", "L3", "L4", "F1", "F2", "F3", "B1", "7"));
        if (chance(50)) Collections.shuffle(labels, random);
        for (String label : labels) {
            if (chance(10)) continue;
            boolean valued = label.startsWith("F");
            b.append(label).append(valued || chance(30) ? formals() : "").append(chance(90) ? " " : " . ").append(of("own trap", 0)).append(line(depth, commands));
            for (int i = below(4); i > 0; i--) b.append("\n ").append(pick("", ".", ". .", "..", ". ")).append(line(depth, commands));
            b.append(valued && chance(80) ? "\n Q " + of("expr", 1) : "\n Q").append('\n');
        }
        return b.toString();
    }

    private String formals() {
        List<String> names = new ArrayList<>(List.of("A", "B", "X", "I", "%"));
        Collections.shuffle(names, random);
        return "(" + String.join(",", names.subList(0, below(4))) + ")";
    }

    private String line(int depth, String commands) {
        return (of(commands, depth) + (chance(20) ? " D" : "")).stripTrailing();
    }

    /** Lines of all levels that go to each other; Z counts them. */
    String flowRoutine() {
        StringBuilder b = new StringBuilder();
        int level = 1;
        for (String label : List.of("A", "B", "C", "D")) {
            for (int i = 0, n = 2 + below(4); i < n; i++) {
                level = chance(40) ? 1 : Math.max(1, Math.min(4, level + below(3) - 1));
                b.append(i == 0 ? label : "").append(' ').append(".".repeat(level - 1)).append("S Z=Z+1 H:Z>60 ");
                for (int k = 1 + below(4); k > 0; k--) b.append(' ').append(of("flow", 2));
                b.append(b.charAt(b.length() - 1) == ' ' ? " \n" : "\n");
            }
        }
        return b.toString();
    }

    /** The text with a byte or more changed. */
    String changed(String text) {
        StringBuilder b = new StringBuilder(text);
        for (int i = chance(80) ? 1 : 3; i > 0; i--) {
            int at = below(b.length() + 1), next = Math.min(b.length(), at + 1);
            switch (below(5)) {
                case 0 -> b.delete(at, next);
                case 1 -> b.insert(at, (char) (32 + below(95)));
                case 2 -> b.replace(at, next, "" + (char) (chance(90) ? 32 + below(95) : below(256)));
                case 3 -> b.insert(at, pick(" ", "  ", "(", ")", ",", "\"", ":", "@", "^", "$", "'", "+", "-", "?", "1", "E", "ABCDEFGHI", "\n", "123456789", ".", "=", "TC",
                    "*", "((((((((((((((((", "''''''''''''''''", "1,1,1,1,1,1,1", ";"));
                default -> b.setLength(at);
            }
        }
        return b.toString();
    }
}

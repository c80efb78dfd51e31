import java.util.ArrayList;
import java.util.HashSet;
import java.util.List;
import java.util.Locale;
import java.util.Set;
import java.util.TreeSet;

/** Part 3: what texts are made of, and how they are read; a Fault tells where no text goes on. */
final class ModelText {
    private ModelText() {
    }

    static final class Fault extends RuntimeException {
        final int place;

        Fault(int place) {
            super("fault at " + place, null, false, false);
            this.place = place;
        }
    }

    /** kind: string, number, ref, sign, operator, pattern, function, special, extrinsic. */
    static final class Expr {
        final String kind;
        final String word;
        final List<Expr> parts = new ArrayList<>();
        Ref ref;
        Entry entry;
        boolean not;
        List<Part> pattern;

        Expr(String kind, String word, Expr... parts) {
            this.kind = kind;
            this.word = word;
            this.parts.addAll(List.of(parts));
        }
    }

    /** kind: local, global, naked, at. */
    static final class Ref {
        String kind;
        String name;
        Expr atom;
        List<Expr> subscripts = new ArrayList<>();
    }

    static final class Entry {
        String label;
        Expr plus;
        String routine;
        List<Actual> actuals;
    }

    static final class Actual {
        Expr value;
        String name;
    }

    /** A piece of a pattern. */
    static final class Part {
        int least;
        int most;
        String codes;
        String string;
        List<List<Part>> choices;
    }

    /** kind of what is SET: node, PIECE, EXTRACT, ECODE, ETRAP. */
    static final class Target {
        String kind = "node";
        Ref ref;
        final List<Expr> values = new ArrayList<>();
    }

    static final class Argument {
        Expr condition;
        Expr at;
        Expr value;
        Expr step;
        Expr limit;
        Entry entry;
        Ref ref;
        Ref from;
        List<Ref> refs;
        List<Target> targets;
        List<String> names;
        char sign;
        String format;
        boolean star;
    }

    static final class Command {
        String word;
        Expr condition;
        String name;
        final List<Argument> arguments = new ArrayList<>();
    }

    static final class Line {
        String text;
        String label;
        List<String> formals;
        int level = 1;
        List<Command> commands = new ArrayList<>();
    }

    static final class Routine {
        final String name;
        final List<Line> lines = new ArrayList<>();

        Routine(String name) {
            this.name = name;
        }
    }

    static boolean isLetter(int c) {
        return c >= 'A' && c <= 'Z' || c >= 'a' && c <= 'z';
    }

    static boolean isDigit(int c) {
        return c >= '0' && c <= '9';
    }

    static boolean isName(String s) {
        if (s.isEmpty() || s.length() > 8 || !isLetter(s.charAt(0)) && s.charAt(0) != '%') return false;
        for (char c : s.substring(1).toCharArray()) if (!isLetter(c) && !isDigit(c)) return false;
        return true;
    }

    static Routine routine(String name, String text) {
        Routine r = new Routine(name);
        Set<String> labels = new HashSet<>();
        for (int at = 0; at >= 0;) {
            if (r.lines.size() >= 100) throw new Fault(at);
            int end = text.indexOf('\n', at);
            r.lines.add(new Reader(text, at, end < 0 ? text.length() : end).line(labels));
            at = end < 0 ? -1 : end + 1;
        }
        return r;
    }

    /** The commands of XECUTE's text; null if it is none. */
    static List<Command> commands(String text) {
        if (text.indexOf('\n') >= 0) return null;
        try {
            return new Reader(text, 0, text.length()).commands();
        } catch (Fault f) {
            return null;
        }
    }

    /** Reads a whole text as what the last word tells; Z3 if it is none. */
    static Ref ref(String text) {
        try {
            Reader r = new Reader(text, 0, text.length());
            Ref ref = r.ref();
            r.endHere();
            return ref;
        } catch (Fault f) {
            throw new ModelError("Z3");
        }
    }

    static List<Part> pattern(String text) {
        try {
            Reader r = new Reader(text, 0, text.length());
            List<Part> parts = r.pattern(false);
            r.endHere();
            return parts;
        } catch (Fault f) {
            throw new ModelError("Z3");
        }
    }

    static List<Argument> arguments(String word, String text) {
        try {
            Reader r = new Reader(text, 0, text.length());
            List<Argument> all = r.arguments(word);
            r.endHere();
            return all;
        } catch (Fault f) {
            throw new ModelError("Z3");
        }
    }

    private static final List<String> FUNCTIONS = List.of("A ASCII", "C CHAR", "D DATA", "E EXTRACT", "F FIND", "FN FNUMBER", "G GET",
        "J JUSTIFY", "L LENGTH", "NA NAME", "O ORDER", "P PIECE", "QL QLENGTH", "QS QSUBSCRIPT", "Q QUERY", "R RANDOM", "RE REVERSE",
        "S SELECT", "T TEXT", "TR TRANSLATE");
    private static final List<String> SPECIALS = List.of("EC ECODE", "ET ETRAP", "H HOROLOG", "J JOB", "Q QUIT", "ST STACK", "T TEST",
        "TL TLEVEL", "TR TRESTART", "X X", "Y Y");
    private static final List<String> COMMANDS = List.of("B BREAK", "D DO", "E ELSE", "F FOR", "G GOTO", "H HALT", "H HANG", "I IF",
        "J JOB", "K KILL", "L LOCK", "M MERGE", "N NEW", "Q QUIT", "R READ", "S SET", "TC TCOMMIT", "TRE TRESTART", "TRO TROLLBACK",
        "TS TSTART", "W WRITE", "X XECUTE");
    private static final List<String> PIECE = List.of("P PIECE", "E EXTRACT"), STATE = List.of("EC ECODE", "ET ETRAP");
    private static final Set<String> NO_CONDITION = Set.of("ELSE", "FOR", "IF");
    private static final Set<String> ALWAYS_BARE = Set.of("BREAK", "ELSE", "HALT", "TCOMMIT", "TRESTART", "TROLLBACK");
    private static final Set<String> MAY_BE_BARE = Set.of("DO", "FOR", "KILL", "LOCK", "NEW", "QUIT", "TSTART");
    private static final Set<String> NEVER_AT = Set.of("FOR", "QUIT", "TSTART", "JOB");
    private static final Set<String> WITH_CONDITIONS = Set.of("DO", "GOTO", "XECUTE");

    private static final class Reader {
        private final String text;
        private final int end;
        private int at;
        private int open;

        Reader(String text, int from, int end) {
            this.text = text;
            this.at = from;
            this.end = end;
        }

        private int here() {
            return ahead(0);
        }

        private int ahead(int k) {
            return at + k < end ? text.charAt(at + k) : -1;
        }

        private Fault fault() {
            return new Fault(at);
        }

        private boolean accept(char c) {
            if (here() != c) return false;
            at++;
            return true;
        }

        private void need(char c) {
            if (!accept(c)) throw fault();
        }

        void endHere() {
            if (at < end) throw fault();
        }

        private void opened() {
            if (open >= 15) throw fault();
            open++;
            at++;
        }

        private void closed() {
            need(')');
            open--;
        }

        private boolean beginsName() {
            return isLetter(here()) || here() == '%';
        }

        private String name() {
            if (!beginsName()) throw fault();
            int from = at++;
            while (isLetter(here()) || isDigit(here())) at++;
            if (at - from > 8) throw new Fault(from);
            return text.substring(from, at);
        }

        private String digits(int most) {
            int from = at;
            while (isDigit(here())) at++;
            if (at - from > most) throw new Fault(from);
            return text.substring(from, at);
        }

        private String label() {
            return isDigit(here()) ? digits(8) : name();
        }

        private String string() {
            int from = at;
            need('"');
            StringBuilder b = new StringBuilder();
            while (here() >= 0 && (here() != '"' || ahead(1) == '"')) {
                b.append((char) here());
                at += here() == '"' ? 2 : 1;
            }
            if (b.length() > 250) throw new Fault(from);
            need('"');
            return b.toString();
        }

        private Expr number() {
            int from = at, digits = 0;
            boolean point = false;
            while (isDigit(here()) || here() == '.' && !point) {
                if (isDigit(here())) digits++;
                else point = true;
                at++;
            }
            if (digits == 0) throw fault();
            if (accept('E')) {
                if (here() == '+' || here() == '-') at++;
                if (!isDigit(here())) throw fault();
                while (isDigit(here())) at++;
            }
            return new Expr("number", text.substring(from, at));
        }

        /** The words, short or whole, that stand here. */
        private Set<String> word(List<String> words) {
            String read = "";
            for (; isLetter(here()); at++) {
                String more = read + Character.toUpperCase((char) here());
                if (words.stream().noneMatch(w -> w.substring(w.indexOf(' ') + 1).startsWith(more))) throw fault();
                read = more;
            }
            Set<String> found = new TreeSet<>();
            for (String w : words) {
                String whole = w.substring(w.indexOf(' ') + 1);
                if (read.equals(whole) || w.startsWith(read + " ")) found.add(whole);
            }
            if (found.isEmpty()) throw fault();
            return found;
        }

        // ---- expressions

        private Expr atom() {
            int c = here();
            if (c == '+' || c == '-' || c == '\'') {
                opened();
                Expr e = new Expr("sign", "" + (char) c, atom());
                open--;
                return e;
            }
            if (c == '(') {
                opened();
                Expr e = expression();
                closed();
                return e;
            }
            if (c == '"') return new Expr("string", string());
            if (c == '.' || isDigit(c)) return number();
            if (c == '$' && ahead(1) == '$') {
                at += 2;
                Expr e = new Expr("extrinsic", "");
                e.entry = entry(false, true, false);
                return e;
            }
            if (c == '$') return dollar();
            if (c != '^' && c != '@' && !beginsName()) throw fault();
            Expr e = new Expr("ref", "");
            e.ref = ref();
            return e;
        }

        /** An ATOM behind an @. */
        private Expr atAtom() {
            opened();
            Expr e = atom();
            open--;
            return e;
        }

        /** e , .. ) behind the bracket that is here. */
        private List<Expr> list(int most) {
            opened();
            List<Expr> all = new ArrayList<>();
            do {
                if (all.size() >= most) throw fault();
                all.add(expression());
            } while (accept(','));
            closed();
            return all;
        }

        Ref ref() {
            Ref r = new Ref();
            if (here() == '@') {
                r.kind = "at";
                r.atom = atAtom();
                if (accept('@')) {
                    if (here() != '(') throw fault();
                    r.subscripts = list(6);
                }
                return r;
            }
            boolean global = accept('^');
            r.kind = !global ? "local" : here() == '(' ? "naked" : "global";
            if (!r.kind.equals("naked")) r.name = name();
            if (here() == '(') r.subscripts = list(6);
            return r;
        }

        private Entry entry(boolean plus, boolean actuals, boolean valuesAlone) {
            Entry e = new Entry();
            int from = at;
            if (isDigit(here()) || beginsName()) e.label = label();
            if (plus && accept('+')) e.plus = expression();
            if (accept('^')) e.routine = name();
            if (at == from) throw fault();
            if (actuals && e.plus == null && here() == '(') e.actuals = actuals(valuesAlone);
            return e;
        }

        private List<Actual> actuals(boolean valuesAlone) {
            opened();
            List<Actual> all = new ArrayList<>();
            if (here() != ')') {
                do {
                    if (all.size() >= 20) throw fault();
                    Actual a = new Actual();
                    boolean none = here() == ',' || here() == ')';
                    if (!valuesAlone && here() == '.' && !isDigit(ahead(1))) {
                        at++;
                        a.name = name();
                    } else if (valuesAlone || !none) {
                        a.value = expression();
                    }
                    all.add(a);
                } while (accept(','));
            }
            closed();
            return all;
        }

        private Expr dollar() {
            at++;
            int from = at;
            List<String> both = new ArrayList<>(FUNCTIONS);
            both.addAll(SPECIALS);
            word(both);
            int behind = at;
            boolean called = here() == '(';
            at = from;
            List<String> words = called ? FUNCTIONS : SPECIALS;
            Set<String> found;
            try {
                found = word(words);
            } catch (Fault f) {
                throw new Fault(behind);
            }
            String word = found.iterator().next();
            return called ? function(word) : new Expr("special", word);
        }

        private Expr function(String word) {
            Expr e = new Expr("function", word);
            if (word.equals("CHAR")) {
                e.parts.addAll(list(20));
                return e;
            }
            opened();
            switch (word) {
                case "DATA", "QUERY" -> e.ref = ref();
                case "GET", "NAME", "ORDER" -> {
                    e.ref = ref();
                    if (accept(',')) e.parts.add(expression());
                }
                case "TEXT" -> e.entry = entry(true, false, false);
                case "SELECT" -> {
                    do {
                        e.parts.add(expression());
                        need(':');
                        e.parts.add(expression());
                    } while (accept(','));
                }
                default -> {
                    do {
                        e.parts.add(expression());
                    } while (e.parts.size() < most(word) && accept(','));
                    if (e.parts.size() < fewest(word)) throw fault();
                }
            }
            closed();
            return e;
        }

        private static int fewest(String function) {
            return switch (function) {
                case "FIND", "JUSTIFY", "TRANSLATE", "FNUMBER", "QSUBSCRIPT", "PIECE" -> 2;
                default -> 1;
            };
        }

        private static int most(String function) {
            return switch (function) {
                case "PIECE" -> 4;
                case "EXTRACT", "FIND", "JUSTIFY", "TRANSLATE" -> 3;
                case "ASCII", "LENGTH", "FNUMBER", "QSUBSCRIPT" -> 2;
                default -> 1;
            };
        }

        Expr expression() {
            Expr left = atom();
            while (true) {
                boolean not = accept('\'');
                if (not && (here() < 0 || "=<>[]&!?".indexOf(here()) < 0)) throw fault();
                if (accept('?')) {
                    left = new Expr("pattern", "", left);
                    if (here() == '@') left.parts.add(atAtom());
                    else left.pattern = pattern(false);
                } else {
                    String operator = operator();
                    if (operator.isEmpty()) return left;
                    left = new Expr("operator", operator, left, atom());
                }
                left.not = not;
            }
        }

        private String operator() {
            if (here() < 0 || "_+-*/\\#=<>[]&!".indexOf(here()) < 0) return "";
            String one = "" + (char) here();
            boolean twice = (one.equals("*") || one.equals("]")) && ahead(1) == here();
            at += twice ? 2 : 1;
            return twice ? one + one : one;
        }

        List<Part> pattern(boolean inner) {
            List<Part> all = new ArrayList<>();
            while (isDigit(here()) || here() == '.') {
                Part p = new Part();
                String least = digits(3);
                p.least = least.isEmpty() ? 0 : Integer.parseInt(least);
                p.most = p.least;
                if (accept('.')) {
                    String most = digits(3);
                    p.most = most.isEmpty() ? Integer.MAX_VALUE : Integer.parseInt(most);
                }
                if (here() == '"') p.string = string();
                else if (here() == '(' && !inner) p.choices = choices();
                else p.codes = codes();
                all.add(p);
            }
            if (all.isEmpty()) throw fault();
            return all;
        }

        private List<List<Part>> choices() {
            opened();
            List<List<Part>> all = new ArrayList<>();
            do {
                all.add(pattern(true));
            } while (accept(','));
            closed();
            return all;
        }

        private String codes() {
            int from = at;
            while (isLetter(here()) && "ACELNPUacelnpu".indexOf(here()) >= 0) at++;
            if (at == from) throw fault();
            return text.substring(from, at).toUpperCase(Locale.ROOT);
        }

        // ---- commands

        private List<String> names() {
            opened();
            List<String> all = new ArrayList<>();
            do {
                if (all.size() >= 20) throw fault();
                all.add(name());
            } while (accept(','));
            closed();
            return all;
        }

        private Target target() {
            Target t = new Target();
            if (!accept('$')) {
                t.ref = ref();
                return t;
            }
            List<String> words = new ArrayList<>(PIECE);
            words.addAll(STATE);
            t.kind = word(words).iterator().next();
            if (t.kind.equals("ECODE") || t.kind.equals("ETRAP")) return t;
            if (here() != '(') throw fault();
            opened();
            t.ref = ref();
            int most = t.kind.equals("PIECE") ? 3 : 2;
            while (t.values.size() < most && accept(',')) t.values.add(expression());
            if (most == 3 && t.values.isEmpty()) throw fault();
            closed();
            return t;
        }

        private Argument format() {
            Argument a = new Argument();
            int from = at;
            while (here() == '!' || here() == '#') at++;
            a.format = text.substring(from, at);
            if (accept('?')) a.value = expression();
            return a;
        }

        private boolean isFormat() {
            return here() == '!' || here() == '#' || here() == '?';
        }

        private boolean endsArgument(String word) {
            return here() < 0 || here() == ',' || here() == ' ' || here() == ':' && WITH_CONDITIONS.contains(word);
        }

        List<Argument> arguments(String word) {
            List<Argument> all = new ArrayList<>();
            do {
                all.add(argument(word));
            } while (!word.equals("QUIT") && accept(','));
            return all;
        }

        private Argument argument(String word) {
            Argument a = here() == '@' && !NEVER_AT.contains(word) ? atArgument(word) : null;
            if (a == null) a = toldArgument(word);
            if (WITH_CONDITIONS.contains(word) && accept(':')) a.condition = expression();
            return a;
        }

        /** @ and an ATOM alone; null if it goes on as something else may. */
        private Argument atArgument(String word) {
            int from = at;
            Argument a = new Argument();
            a.at = atAtom();
            if (endsArgument(word)) return a;
            if (word.equals("DO") || word.equals("GOTO") || word.equals("NEW")) throw fault();
            at = from;
            return null;
        }

        private Argument toldArgument(String word) {
            Argument a = new Argument();
            switch (word) {
                case "DO" -> a.entry = entry(true, true, false);
                case "GOTO" -> a.entry = entry(true, false, false);
                case "JOB" -> a.entry = entry(true, true, true);
                case "XECUTE", "HANG", "IF", "QUIT" -> a.value = expression();
                case "FOR" -> range(a);
                case "KILL" -> {
                    if (here() == '(') a.names = names();
                    else a.ref = ref();
                }
                case "NEW" -> {
                    if (here() == '(') a.names = names();
                    else a.format = name();
                }
                case "LOCK" -> lockTarget(a);
                case "MERGE" -> {
                    a.ref = ref();
                    need('=');
                    a.from = ref();
                }
                case "READ" -> {
                    return readArgument();
                }
                case "WRITE" -> {
                    if (isFormat()) return format();
                    a.star = accept('*');
                    a.value = expression();
                }
                case "SET" -> setArgument(a);
                default -> transaction(a);
            }
            return a;
        }

        private void range(Argument a) {
            a.value = expression();
            if (accept(':')) a.step = expression();
            if (a.step != null && accept(':')) a.limit = expression();
        }

        private void lockTarget(Argument a) {
            if (here() == '+' || here() == '-') a.sign = text.charAt(at++);
            a.refs = new ArrayList<>();
            if (here() == '(') {
                opened();
                do {
                    if (a.refs.size() >= 20) throw fault();
                    a.refs.add(ref());
                } while (accept(','));
                closed();
            } else {
                a.refs.add(ref());
            }
            if (accept(':')) a.value = expression();
        }

        private Argument readArgument() {
            if (isFormat()) return format();
            Argument a = new Argument();
            if (here() == '"') {
                a.value = new Expr("string", string());
            } else {
                a.ref = ref();
                if (accept(':')) a.value = expression();
            }
            return a;
        }

        private void setArgument(Argument a) {
            a.targets = new ArrayList<>();
            if (here() == '(') {
                opened();
                do {
                    if (a.targets.size() >= 20) throw fault();
                    a.targets.add(target());
                } while (accept(','));
                closed();
            } else {
                a.targets.add(target());
            }
            need('=');
            a.value = expression();
        }

        private void transaction(Argument a) {
            a.star = accept('*');
            if (a.star) return;
            if (here() != '(') throw fault();
            if (ahead(1) == ')') {
                at += 2;
                a.names = new ArrayList<>();
            } else {
                a.names = names();
            }
        }

        List<Command> commands() {
            List<Command> all = new ArrayList<>();
            while (at < end && here() != ';') {
                if (!isLetter(here())) throw fault();
                all.add(command());
                while (accept(' ')) continue;
            }
            return all;
        }

        private Command command() {
            Command c = new Command();
            Set<String> words = word(COMMANDS);
            if (!NO_CONDITION.containsAll(words) && accept(':')) c.condition = expression();
            boolean mayBeBare = words.stream().anyMatch(w -> ALWAYS_BARE.contains(w) || MAY_BE_BARE.contains(w));
            boolean mayHave = words.stream().anyMatch(w -> !ALWAYS_BARE.contains(w));
            boolean bare = at >= end;
            if (!bare) {
                need(' ');
                bare = here() == ' ';
            }
            if (bare ? !mayBeBare : !mayHave) throw fault();
            for (String w : words) if (bare ? ALWAYS_BARE.contains(w) || MAY_BE_BARE.contains(w) : !ALWAYS_BARE.contains(w)) c.word = w;
            if (bare) return c;
            if (c.word.equals("FOR")) {
                c.name = name();
                need('=');
            }
            c.arguments.addAll(arguments(c.word));
            if (at < end && here() != ' ') throw fault();
            return c;
        }

        /** A line of a routine that has these labels so far. */
        Line line(Set<String> labels) {
            Line l = new Line();
            int from = at;
            l.text = text.substring(at, end);
            if (isDigit(here()) || beginsName()) {
                l.label = label();
                if (!labels.add(l.label)) throw new Fault(from);
                if (here() == '(') l.formals = formals();
            }
            if (at == end) return l;
            need(' ');
            while (accept(' ')) continue;
            while (accept('.')) {
                l.level++;
                while (accept(' ')) continue;
            }
            l.commands = commands();
            return l;
        }

        private List<String> formals() {
            opened();
            List<String> all = new ArrayList<>();
            if (here() != ')') {
                do {
                    if (all.size() >= 20) throw fault();
                    int from = at;
                    String n = name();
                    if (all.contains(n)) throw new Fault(from);
                    all.add(n);
                } while (accept(','));
            }
            closed();
            return all;
        }
    }
}

import java.lang.reflect.Constructor;
import java.lang.reflect.Field;
import java.lang.reflect.Method;
import java.lang.reflect.Modifier;
import java.nio.charset.StandardCharsets;
import java.nio.file.Files;
import java.nio.file.Path;
import java.util.ArrayList;
import java.util.Arrays;
import java.util.List;
import java.util.Map;
import java.util.TreeSet;
import java.util.regex.Matcher;
import java.util.regex.Pattern;

/**
 * The rules of LANGUAGE.md that can be read off the program: 1 (the face), 3 and 5 (fields), 4 (static functions of the
 * library), 6 (words that may not stand), 11 (sizes), 12 (what is made is made in fields, constructors and what they
 * call). It runs in the project's folder.
 */
public final class LanguageTest {
    private static final List<String> NUMBERS = List.of("compare", "max", "min", "abs", "bitCount", "floorDiv", "floorMod");
    private static final Map<String, List<String>> LISTED = Map.of("Integer", NUMBERS, "Long", NUMBERS, "Math", NUMBERS,
        "System", List.of("arraycopy"), "Arrays", List.of("copyOf", "copyOfRange", "fill"), "List", List.of("of"));
    private static final List<String> UNKNOWN = List.of("String", "Character", "Byte", "Short", "Double", "Float", "Boolean", "Objects", "Collections");
    private static final Pattern FORBIDDEN = Pattern.compile("\\b(throw|throws|try|catch|finally|synchronized|assert|import|package|protected|native|volatile|var|yield|goto)\\b|->|::|\\bthis\\s*==");
    private static final String FACE = "code(int) count(int) cut(int,int) end(int) feed(int,int,int,int,int) halt(int) level(int,int,int) lock(int,int) look(int,int) "
        + "octet(int,int) poke(int,int,int) process() result(int) save(int) seed(long) sound() start() state(int,int) sync() take(int) tell(int) time(int) turns(int) verify() written(int,int)";
    private static final int MOST_LINES = 60, MOST_PARAMETERS = 7, MOST_CLASSES = 12, MOST_FIELDS = 20;

    public static void main(String[] args) throws Exception {
        String program = Files.readString(Path.of("src/main/java/MumpsHouse.java"), StandardCharsets.ISO_8859_1);
        String[] lines = program.split("\n");
        String[] bare = new String[lines.length];
        for (int i = 0; i < lines.length; i++) bare[i] = lines[i].replaceAll("//.*|^ */?\\*.*|\"([^\"\\\\]|\\\\.)*\"", "");
        functions(bare);
        words(bare);
        makers(bare);
        lengths(bare);
        face();
        List<Class<?>> all = new ArrayList<>(List.of(MumpsHouse.class.getDeclaredClasses()));
        all.add(MumpsHouse.class);
        House.due("classes beyond " + MOST_CLASSES, Math.max(0, all.size() - MOST_CLASSES), 0);
        for (Class<?> c : all) members(c);
        House.due("a program of many lines", lines.length > 1000 ? 1 : 0, 1);
        House.report();
    }

    private static void functions(String[] lines) {
        for (int i = 0; i < lines.length; i++) {
            Matcher m = Pattern.compile("\\b([A-Z]\\w*)\\s*\\.\\s*([a-z]\\w*)").matcher(lines[i]);
            while (m.find()) {
                List<String> listed = LISTED.get(m.group(1));
                if (listed == null ? UNKNOWN.contains(m.group(1)) : !listed.contains(m.group(2))) {
                    House.due("line " + (i + 1), m.group(), "a function that is listed");
                }
            }
        }
    }

    private static void words(String[] lines) {
        for (int i = 0; i < lines.length; i++) {
            Matcher m = FORBIDDEN.matcher(lines[i]);
            if (m.find()) House.due("line " + (i + 1), m.group(), "no such word");
        }
    }

    /** Only a field, a constructor, or a function many(..), which fields alone call, makes an object or an array. */
    private static void makers(String[] lines) {
        String method = "";
        for (int i = 0; i < lines.length; i++) {
            String line = lines[i];
            if (line.matches(" {4,8}(private|public) [^=;]*\\{")) method = line;
            boolean field = line.matches(" {4,8}private [^({]* = .*;"), many = method.contains(" many("), inConstructor = method.matches(" *(private|public) [A-Z]\\w*\\(.*");
            boolean makes = line.matches(".*\\bnew\\b.*"), calls = line.contains(".many(");
            if (makes && !field && !many && !inConstructor) House.due("line " + (i + 1), line.strip(), "nothing made in a call");
            if (calls && !field && !inConstructor) House.due("line " + (i + 1), line.strip(), "rows made by a field");
        }
    }

    /** A method begins and ends with lines that are as deep. */
    private static void lengths(String[] lines) {
        int methods = 0;
        for (int i = 0; i < lines.length; i++) {
            Matcher m = Pattern.compile("( {4,8})(?:private|public) (?!.*\\bclass\\b)[^=;]*\\{").matcher(lines[i]);
            if (!m.matches()) continue;
            int end = i;
            while (end < lines.length - 1 && !lines[end].equals(m.group(1) + "}")) end++;
            House.due("lines beyond " + MOST_LINES + " from line " + (i + 1), Math.max(0, end - i + 1 - MOST_LINES), 0);
            methods++;
        }
        House.due("methods are found", methods > 200 ? 1 : 0, 1);
    }

    private static void face() {
        TreeSet<String> face = new TreeSet<>();
        for (Method m : MumpsHouse.class.getDeclaredMethods()) {
            if (Modifier.isPrivate(m.getModifiers())) continue;
            House.due(m.getName() + " is public, no more, and answers int", Modifier.toString(m.getModifiers()) + " " + m.getReturnType(), "public int");
            face.add(m.getName() + Arrays.toString(m.getParameterTypes()).replace('[', '(').replace(']', ')').replace(" ", ""));
        }
        House.due("the face", String.join(" ", face), FACE);
        StringBuilder constants = new StringBuilder();
        for (Field f : MumpsHouse.class.getDeclaredFields()) if (!Modifier.isPrivate(f.getModifiers())) constants.append(Modifier.toString(f.getModifiers())).append(' ').append(f.getName()).append(' ');
        House.due("the constants", constants.toString(), "public static final NONE public static final BAD public static final STATE public static final FULL public static final DOWN public static final LOST ");
        House.due("the class", Modifier.toString(MumpsHouse.class.getModifiers()), "public final");
    }

    private static void members(Class<?> c) {
        int fields = 0;
        for (Field f : c.getDeclaredFields()) {
            Class<?> type = f.getType().isArray() ? f.getType().getComponentType() : f.getType();
            boolean number = type == int.class || type == long.class || type == byte.class || type == boolean.class, own = type.getName().startsWith("MumpsHouse");
            House.due("the type of " + c.getName() + "." + f.getName() + " may be", number || own || type == String.class ? 1 : 0, 1);
            if (Modifier.isStatic(f.getModifiers())) House.due(c.getName() + "." + f.getName() + " is final, and no object", Modifier.isFinal(f.getModifiers()) && !own ? 1 : 0, 1);
            else fields++;
        }
        House.due("fields of " + c.getName() + " beyond " + MOST_FIELDS, Math.max(0, fields - MOST_FIELDS), 0);
        for (Method m : c.getDeclaredMethods()) {
            House.due("parameters of " + c.getName() + "." + m.getName() + " beyond " + MOST_PARAMETERS, Math.max(0, m.getParameterCount() - MOST_PARAMETERS), 0);
            boolean named = (" " + FACE).contains(" " + m.getName() + "(");
            House.due(c.getName() + "." + m.getName() + ": no private method bears the name of a public one", named && Modifier.isPrivate(m.getModifiers()) ? 1 : 0, 0);
        }
        for (Constructor<?> k : c.getDeclaredConstructors()) House.due("parameters of " + c.getName(), Math.max(0, k.getParameterCount() - MOST_PARAMETERS), 0);
        if (c == MumpsHouse.class) return;
        House.due(c.getName() + " is static, and private or package-visible", Modifier.isStatic(c.getModifiers()) && !Modifier.isPublic(c.getModifiers()) && !Modifier.isProtected(c.getModifiers()) ? 1 : 0, 1);
    }
}

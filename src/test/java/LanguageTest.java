import java.nio.charset.StandardCharsets;
import java.nio.file.Files;
import java.nio.file.Path;
import java.util.List;
import java.util.Map;
import java.util.regex.Matcher;
import java.util.regex.Pattern;

/**
 * Rule 4 of LANGUAGE.md: of the library's static functions the program calls only what stands there. Rule 12: what is
 * made is made in fields, constructors and what they call. It runs in the project's folder.
 */
public final class LanguageTest {
    private static final List<String> NUMBERS = List.of("compare", "max", "min", "abs", "bitCount", "floorDiv", "floorMod");
    private static final Map<String, List<String>> LISTED = Map.of("Integer", NUMBERS, "Long", NUMBERS, "Math", NUMBERS,
        "System", List.of("arraycopy"), "Arrays", List.of("copyOf", "copyOfRange", "fill"), "List", List.of("of"));
    private static final List<String> UNKNOWN = List.of("String", "Character", "Byte", "Short", "Double", "Float", "Boolean", "Objects", "Collections");

    public static void main(String[] args) throws Exception {
        String program = Files.readString(Path.of("src/main/java/MumpsHouse.java"), StandardCharsets.ISO_8859_1);
        String[] lines = program.split("\n");
        for (int i = 0; i < lines.length; i++) {
            Matcher m = Pattern.compile("\\b([A-Z]\\w*)\\s*\\.\\s*([a-z]\\w*)").matcher(lines[i]);
            while (m.find()) {
                List<String> listed = LISTED.get(m.group(1));
                if (listed == null ? UNKNOWN.contains(m.group(1)) : !listed.contains(m.group(2))) {
                    House.due("line " + (i + 1), m.group(), "a function that is listed");
                }
            }
        }
        makers(lines);
        House.due("a program of many lines", lines.length > 1000 ? 1 : 0, 1);
        House.report();
    }

    /** Only a field, a constructor, or a function many(..), which fields alone call, makes an object or an array. */
    private static void makers(String[] lines) {
        String method = "";
        for (int i = 0; i < lines.length; i++) {
            String line = lines[i].replaceAll("//.*|^ */?\\*.*|\"([^\"\\\\]|\\\\.)*\"", "");
            if (line.matches(" {4,8}(private|public) [^=;]*\\{")) method = line;
            boolean field = line.matches(" {4,8}private [^({]* = .*;"), many = method.contains(" many("), inConstructor = method.matches(" *(private|public) [A-Z]\\w*\\(.*");
            boolean makes = line.matches(".*\\bnew\\b.*"), calls = line.contains(".many(");
            if (makes && !field && !many && !inConstructor) House.due("line " + (i + 1), line.strip(), "nothing made in a call");
            if (calls && !field && !inConstructor) House.due("line " + (i + 1), line.strip(), "rows made by a field");
        }
    }
}

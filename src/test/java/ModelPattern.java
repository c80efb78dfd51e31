import java.util.List;

/** Whether a string is a row of a pattern's pieces: by the places that each piece may end at. */
final class ModelPattern {
    private final String s;

    private ModelPattern(String s) {
        this.s = s;
    }

    static boolean fits(String s, List<ModelText.Part> parts) {
        boolean[] begin = new boolean[s.length() + 1];
        begin[0] = true;
        return new ModelPattern(s).behind(parts, begin)[s.length()];
    }

    private boolean[] behind(List<ModelText.Part> parts, boolean[] from) {
        boolean[] places = from;
        for (ModelText.Part p : parts) places = behind(p, places);
        return places;
    }

    private boolean[] behind(ModelText.Part p, boolean[] from) {
        boolean[] all = new boolean[from.length], now = from.clone();
        // a piece more than the bytes are too many for is one of no bytes, which changes nothing any more
        for (int n = 0; n <= Math.min(p.most, 1000 + s.length()); n++) {
            if (n > 0) now = once(p, now);
            for (int i = 0; i < all.length && n >= p.least; i++) all[i] |= now[i];
        }
        return all;
    }

    private boolean[] once(ModelText.Part p, boolean[] from) {
        boolean[] to = new boolean[from.length];
        if (p.choices != null) {
            for (List<ModelText.Part> choice : p.choices) {
                boolean[] places = behind(choice, from);
                for (int i = 0; i < to.length; i++) to[i] |= places[i];
            }
            return to;
        }
        for (int i = 0; i < from.length; i++) {
            if (!from[i]) continue;
            if (p.string != null && s.startsWith(p.string, i)) to[i + p.string.length()] = true;
            if (p.codes != null && i < s.length() && hasCode(p.codes, s.charAt(i))) to[i + 1] = true;
        }
        return to;
    }

    private static boolean hasCode(String codes, char c) {
        return codes.chars().anyMatch(code -> isOf((char) code, c));
    }

    private static boolean isOf(char code, char c) {
        boolean plain = ModelText.isLetter(c) || ModelText.isDigit(c);
        return switch (code) {
            case 'A' -> ModelText.isLetter(c);
            case 'C' -> c < 32 || c == 127;
            case 'L' -> c >= 'a' && c <= 'z';
            case 'N' -> ModelText.isDigit(c);
            case 'P' -> c >= 32 && c <= 126 && !plain;
            case 'U' -> c >= 'A' && c <= 'Z';
            default -> true;
        };
    }
}

import java.math.BigDecimal;
import java.math.BigInteger;
import java.math.MathContext;
import java.math.RoundingMode;

/** Part 1 of the document by exact decimals. */
final class ModelNumber {
    private static final BigDecimal LIMIT = BigDecimal.TEN.pow(30);
    private static final MathContext DIGITS = new MathContext(18, RoundingMode.HALF_UP);
    private static final long GREATEST_WHOLE = 2000000000L;

    private ModelNumber() {
    }

    static BigDecimal fitted(BigDecimal x) {
        BigDecimal y = x.round(DIGITS);
        if (y.scale() > 30) y = y.setScale(30, RoundingMode.HALF_UP);
        if (y.abs().compareTo(LIMIT) >= 0) throw new ModelError("M92");
        return y;
    }

    static String text(BigDecimal x) {
        if (x.signum() == 0) return "0";
        String s = x.stripTrailingZeros().toPlainString();
        if (s.startsWith("0.")) return s.substring(1);
        return s.startsWith("-0.") ? "-" + s.substring(2) : s;
    }

    static BigDecimal read(String s) {
        int i = 0;
        boolean minus = false;
        for (; i < s.length() && (s.charAt(i) == '+' || s.charAt(i) == '-'); i++) minus ^= s.charAt(i) == '-';
        BigDecimal x = fitted(unsigned(s, i));
        return minus ? x.negate() : x;
    }

    private static BigDecimal unsigned(String s, int from) {
        int i = from, digits = 0, point = -1;
        for (; i < s.length(); i++) {
            if (isDigit(s.charAt(i))) digits++;
            else if (s.charAt(i) == '.' && point < 0) point = i;
            else break;
        }
        if (digits == 0) return BigDecimal.ZERO;
        BigInteger m = new BigInteger(s.substring(from, i).replace(".", ""));
        return new BigDecimal(m, point < 0 ? 0 : i - point - 1).scaleByPowerOfTen(exponent(s, i));
    }

    private static int exponent(String s, int at) {
        if (at >= s.length() || s.charAt(at) != 'E') return 0;
        int i = at + 1, e = 0;
        boolean signed = i < s.length() && (s.charAt(i) == '+' || s.charAt(i) == '-'), minus = signed && s.charAt(i) == '-';
        if (signed) i++;
        for (; i < s.length() && isDigit(s.charAt(i)); i++) e = Math.min(999, e * 10 + s.charAt(i) - '0');
        return minus ? -e : e;
    }

    static boolean isDigit(char c) {
        return c >= '0' && c <= '9';
    }

    static boolean isTrue(String s) {
        return read(s).signum() != 0;
    }

    static long whole(String s) {
        BigDecimal x = read(s);
        BigDecimal limit = BigDecimal.valueOf(GREATEST_WHOLE);
        return x.min(limit).max(limit.negate()).longValue();
    }

    /** Whether it is the text of a number: without rounding it becomes the same text again. */
    static boolean isCanonic(String s) {
        if (s.isEmpty() || s.length() > 60) return false;
        for (char c : s.toCharArray()) if (!isDigit(c) && c != '.' && c != '-') return false;
        boolean minus = s.charAt(0) == '-';
        BigDecimal x = unsigned(s, minus ? 1 : 0);
        if (x.stripTrailingZeros().precision() > 18 || x.stripTrailingZeros().scale() > 30 || x.compareTo(LIMIT) >= 0) return false;
        return s.equals(text(minus ? x.negate() : x));
    }

    /** The order of subscripts; an empty one is before all. */
    static int order(String a, String b) {
        if (isCanonic(a) && isCanonic(b)) return read(a).compareTo(read(b));
        int rankA = rank(a), rankB = rank(b);
        return rankA != rankB ? rankA - rankB : a.compareTo(b);
    }

    private static int rank(String s) {
        return s.isEmpty() ? 0 : isCanonic(s) ? 1 : 2;
    }

    static BigDecimal quotient(BigDecimal a, BigDecimal b) {
        if (b.signum() == 0) throw new ModelError("M9");
        return fitted(a.divide(b, DIGITS));
    }

    private static BigDecimal cut(BigDecimal a, BigDecimal b) {
        if (b.signum() == 0) throw new ModelError("M9");
        return new BigDecimal(a.movePointRight(30).toBigIntegerExact().divide(b.movePointRight(30).toBigIntegerExact()));
    }

    static BigDecimal wholeQuotient(BigDecimal a, BigDecimal b) {
        return fitted(cut(a, b));
    }

    static BigDecimal modulo(BigDecimal a, BigDecimal b) {
        BigDecimal rest = a.subtract(cut(a, b).multiply(b));
        return fitted(rest.signum() * b.signum() < 0 ? rest.add(b) : rest);
    }

    static BigDecimal power(BigDecimal a, BigDecimal b) {
        if (b.stripTrailingZeros().scale() > 0 || b.abs().compareTo(BigDecimal.valueOf(100)) > 0) throw new ModelError("M92");
        BigDecimal x = BigDecimal.ONE;
        for (int i = b.abs().intValue(); i > 0; i--) x = fitted(x.multiply(a));
        return b.signum() < 0 ? quotient(BigDecimal.ONE, x) : x;
    }
}

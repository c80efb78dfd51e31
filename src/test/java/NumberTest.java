import java.math.BigDecimal;
import java.math.BigInteger;
import java.math.MathContext;
import java.math.RoundingMode;
import java.util.Random;

/** Part 1 and the operators on numbers: against exact decimals, on random numbers of all sizes. */
public final class NumberTest {
    private static final BigDecimal GREATEST = BigDecimal.TEN.pow(30);
    private static final Random random = new Random(7);

    public static void main(String[] args) {
        edges();
        greatDivisors();
        for (int i = 0; i < 400; i++) {
            House house = new House();
            for (int k = 0; k < 12; k++) operation(house);
            for (int k = 0; k < 6; k++) reading(house);
        }
        for (int i = 0; i < 60; i++) functions(new House());
        House.report();
    }

    private static void edges() {
        due("W .1**30", "." + "0".repeat(29) + "1");
        due("W .1**31", "0");
        due("W 1E29*9.99999999999999999", "999999999999999999000000000000");
        due("W 1E29*10", "{,M92,}");
        due("W 999999999999999999999999999999", "{,M92,}");
        due("W 999999999999999999E12", "999999999999999999000000000000");
        due("W 9999999999999999995", "10000000000000000000");
        due("W \"999999999999999999999999999999\"+1", "{,M92,}");
        due("W 0.50,-0,00012.500", ".5012.5");
        due("W +\"1E-31\",+\"5E-31\"", "0." + "0".repeat(29) + "1");
        due("W +\"1E99999\"", "{,M92,}");
        due("W +\"0E99999\",+\"1E-99999\"", "00");
        due("W +\"12E\",+\"12E+\",+\"12E-x\",+\"1.5.2\",+\".\",+\"+-+-7\",+\"- 7\"", "1212121.5070");
        // a subscript that is CANONIC has no quotes: 18 digits, below 1E30, 30 places behind the point
        canonic("0", "-1", ".5", "-.5", "1.5", "123456789012345678", "123456789012345678000", "12345678.9012345678", ".123456789012345678",
            "1" + "0".repeat(29), "999999999999999999" + "0".repeat(12), "." + "0".repeat(29) + "1", "-." + "0".repeat(12) + "123456789012345678");
        notCanonic("00", "-0", "+1", "1.", "1.0", "0.5", "-", ".", "1E2", "01", "--1", " 1", "1 ", ".0", "1..5", "1234567890123456789", "12345678.90123456789",
            "1" + "0".repeat(30), "." + "0".repeat(30) + "1", "." + "0".repeat(13) + "123456789012345678", "1" + "0".repeat(17) + ".1");
        due("W -2<-1,-1<-2,-1<1,1<-1,-1.5<-1.25,0>-.001,-1E29<-1E28", "1010111");
        due("W 1/0", "{,M9,}");
        due("W 1\\0", "{,M9,}");
        due("W 1#0", "{,M9,}");
        due("W 2**100", "{,M92,}");
        power("2", 99);
        power("1.23456789", 100);
        power("-.97", 77);
        power("3.3", -55);
        due("W 2**.5", "{,M92,}");
        due("W 1**101", "{,M92,}");
        due("W 1**100,1**-100,0**0,0**5", "1110");
        due("W 0**-1", "{,M9,}");
        due("W .001**-20", "{,M9,}");
        due("W 1E-20**2", "0");
        due("W -7\\2,-7#2,7#-2,-7#-2", "-31-1-1");
        due("W 1E-30#1E29", "." + "0".repeat(29) + "1");
        due("W 1E10=10000000000,\"1E10\"=1E10,\"1E10\"+0=1E10", "101");
    }

    /** Ten times what is left of these is no long any more. */
    private static void greatDivisors() {
        String[] divisors = {"999999999999999999", "-999999999999999998", "922337203685477581", "-922337203685477580.", "999999999999.999999", "-.500000000000000001"};
        String[] dividends = {"1", "-2", "999999999999999998", "922337203685477579E11", "-999999999999999997E-30", "123456789012345678E12", "7E-30"};
        for (String b : divisors) {
            for (String a : dividends) {
                for (char op : "/\\#".toCharArray()) operation(new House(), new BigDecimal(a), op, new BigDecimal(b));
            }
        }
        due("W 999999999999999998/999999999999999999", ".999999999999999999");
        due("W 1E29\\999999999999999999", "100000000000");
        due("W 1E29#999999999999999999", "100000000000");
        due("W -1E29#999999999999999999", "999999899999999999");
    }

    private static void canonic(String... numbers) {
        for (String n : numbers) due("S A=\"" + n + "\" W $NA(B(A)),$QS($NA(B(A)),1)", "B(" + n + ")" + n);
    }

    private static void notCanonic(String... strings) {
        for (String s : strings) due("S A=\"" + s + "\" W $NA(B(A)),$QS($NA(B(A)),1)", "B(\"" + s + "\")" + s);
    }

    private static void due(String text, String want) {
        House.due(text, House.of("", text), want);
    }

    private static void power(String base, int n) {
        BigDecimal p = BigDecimal.ONE;
        for (int i = 0; i < Math.abs(n); i++) p = fit(p.multiply(new BigDecimal(base)));
        if (n < 0) p = fit(BigDecimal.ONE.divide(p, new MathContext(200, RoundingMode.DOWN)));
        due("W " + base + "**" + n, text(p));
    }

    private static BigDecimal number() {
        int digits = 1 + random.nextInt(random.nextBoolean() ? 18 : 4);
        StringBuilder b = new StringBuilder();
        for (int i = 0; i < digits; i++) b.append((char) ('0' + (random.nextInt(4) == 0 ? 9 : random.nextInt(4) == 0 ? 0 : random.nextInt(10))));
        int e = random.nextInt(3) == 0 ? random.nextInt(45) - 32 : random.nextInt(8) - 5;
        BigDecimal n = new BigDecimal(new BigInteger(b.toString()), -e);
        if (random.nextBoolean()) n = n.negate();
        BigDecimal fitted = fit(n);
        return fitted == null ? BigDecimal.ONE : fitted;
    }

    /** FITTED; null for M92. */
    private static BigDecimal fit(BigDecimal exact) {
        BigDecimal n = exact.round(new MathContext(18, RoundingMode.HALF_UP));
        if (n.scale() > 30) n = n.setScale(30, RoundingMode.HALF_UP);
        return n.abs().compareTo(GREATEST) >= 0 ? null : n;
    }

    static String text(BigDecimal n) {
        if (n == null) return null;
        if (n.signum() == 0) return "0";
        String t = n.stripTrailingZeros().toPlainString();
        if (t.startsWith("0.")) return t.substring(1);
        return t.startsWith("-0.") ? "-" + t.substring(2) : t;
    }

    private static void operation(House house) {
        BigDecimal a = number(), b = random.nextInt(12) == 0 ? BigDecimal.ZERO : number();
        operation(house, a, "+-*/\\#<>".charAt(random.nextInt(8)), b);
    }

    private static void operation(House house, BigDecimal a, char op, BigDecimal b) {
        String want;
        boolean zero = b.signum() == 0;
        MathContext exact = new MathContext(200, RoundingMode.DOWN);
        switch (op) {
            case '+': want = text(fit(a.add(b))); break;
            case '-': want = text(fit(a.subtract(b))); break;
            case '*': want = text(fit(a.multiply(b))); break;
            case '/': want = zero ? "{,M9,}" : text(fit(a.divide(b, exact))); break;
            case '\\': want = zero ? "{,M9,}" : text(fit(a.divide(b, exact).setScale(0, RoundingMode.DOWN))); break;
            case '#':
                want = zero ? "{,M9,}" : text(fit(a.subtract(b.multiply(a.divide(b, exact).setScale(0, RoundingMode.FLOOR)))));
                break;
            case '<': want = a.compareTo(b) < 0 ? "1" : "0"; break;
            default: want = a.compareTo(b) > 0 ? "1" : "0"; break;
        }
        if (want == null) want = "{,M92,}";
        String text = "W \"" + text(a) + "\"" + op + "\"" + text(b) + "\"";
        House.due(text, house.process(text) < 0 ? "no room" : finish(house), want);
    }

    /** What the last process wrote; a house that had its 24 is not asked. */
    private static String finish(House house) {
        int p = house.house.count(3) - 1;
        house.house.turns(50);
        String code = house.code(p);
        return house.written(p) + (code.isEmpty() ? "" : "{" + code + "}");
    }

    private static void reading(House house) {
        StringBuilder b = new StringBuilder();
        String signs = "0123456789..E+-x";
        int n = random.nextInt(30);
        for (int i = 0; i < n; i++) b.append(random.nextInt(3) > 0 ? signs.charAt(random.nextInt(10)) : signs.charAt(random.nextInt(16)));
        String s = b.toString();
        java.util.regex.Matcher m = java.util.regex.Pattern.compile("^([+-]*)(\\d+\\.?\\d*|\\.\\d+)(E[+-]?\\d+)?").matcher(s);
        String want = "0";
        if (m.find()) {
            boolean minus = m.group(1).chars().filter(c -> c == '-').count() % 2 == 1;
            BigDecimal value = new BigDecimal(m.group(2));
            if (m.group(3) != null) {
                String e = m.group(3).substring(1);
                boolean down = e.startsWith("-");
                BigInteger k = new BigInteger(e.replaceFirst("^[+-]", "")).min(BigInteger.valueOf(999));
                value = value.scaleByPowerOfTen(down ? -k.intValue() : k.intValue());
            }
            want = text(fit(minus ? value.negate() : value));
            if (want == null) want = "{,M92,}";
        }
        String text = "W +\"" + s + "\"";
        House.due(text, house.process(text) < 0 ? "no room" : finish(house), want);
    }

    private static void functions(House house) {
        BigDecimal a = number();
        int places = random.nextInt(31);
        String fixed = a.setScale(places, RoundingMode.HALF_UP).toPlainString();
        if (new BigDecimal(fixed).signum() == 0 && fixed.startsWith("-")) fixed = fixed.substring(1);
        String text = "W $J(\"" + text(a) + "\",0," + places + ")";
        House.due(text, house.run(text), fixed);
        text = "W $E(" + text(a) + ",1,250)";
        House.due(text, house.run(text), text(a));
    }
}

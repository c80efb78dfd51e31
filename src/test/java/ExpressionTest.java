/** Promises 5, 9, 12, 14 on part 1 and 4: numbers, operators, functions. */
public final class ExpressionTest {
    public static void main(String[] args) {
        value("1+2*3", "9");
        value("1/3", ".333333333333333333");
        value("2/3", ".666666666666666667");
        House.report();
    }

    private static void value(String expression, String want) {
        House.due(expression, House.of("", "W " + expression), want);
    }
}

/** Terms, promise 4: how great a number may be and how many places it has, written and as a result. */
final class NumberBoundsTest {
    private static final String MOST = "999999999999999999";
    private static final String NEXT = "999999999999999998";

    public static void main(String[] args) {
        Check check = new Check();
        written(check);
        sums(check);
        products(check);
        negatives(check);
        digits(check);
        digitsBehindThePoint(check);
        noDigit(check);
        points(check);
        longestRow(check);
        sign(check);
        sameValue(check);
        placesOfResults(check);
        check.end();
    }

    /** "m between -999999999999999999 and 999999999999999999" */
    private static void written(Check check) {
        check.program(NEXT, "1", NEXT);
        check.program(MOST, "1", MOST);
        check.program("_" + NEXT, "1", "-" + NEXT);
        check.program("_" + MOST, "1", "-" + MOST);
        check.program("999999999.999999999", "1", MOST + ":9");
        check.program("_999999999.999999999", "1", "-" + MOST + ":9");
        check.refused("5 ", "1000000000000000000", Check.ARGUMENT);
        check.refused("5", "_1000000000000000000", Check.ARGUMENT);
    }

    /** "a result has more than 18 digits", of + and - */
    private static void sums(Check check) {
        check.program(NEXT + " 1+", "3", MOST);
        check.program(MOST + " 0+", "3", MOST);
        check.refused(MOST + " 1", "+", Check.UNSUPPORTED);
        check.refused("1 " + MOST, "+", Check.UNSUPPORTED);
        check.refused(MOST + " " + MOST, "+", Check.UNSUPPORTED);
        check.program("_" + NEXT + " _1+", "3", "-" + MOST);
        check.refused("_" + MOST + " _1", "+", Check.UNSUPPORTED);
        check.program("_" + NEXT + " 1-", "3", "-" + MOST);
        check.program("_" + MOST + " 0-", "3", "-" + MOST);
        check.refused("_" + MOST + " 1", "-", Check.UNSUPPORTED);
        check.program(NEXT + " _1-", "3", MOST);
        check.refused(MOST + " _1", "-", Check.UNSUPPORTED);
        check.refused("_" + MOST + " " + MOST, "-", Check.UNSUPPORTED);
        check.program("99999999999999999.8 .1+", "3", MOST + ":1");
        check.refused("99999999999999999.9 .1", "+", Check.UNSUPPORTED);
        check.program("999999999.999999998 .000000001+", "3", MOST + ":9");
        check.refused("999999999.999999999 .000000001", "+", Check.UNSUPPORTED);
    }

    /** "a result has more than 18 digits", of * */
    private static void products(Check check) {
        check.program("499999999999999999 2*", "3", NEXT);
        check.program("333333333333333333 3*", "3", MOST);
        check.program("_333333333333333333 3*", "3", "-" + MOST);
        check.program("_333333333333333333 _3*", "3", MOST);
        check.refused("500000000000000000 2", "*", Check.UNSUPPORTED);
        check.refused("500000000000000000 _2", "*", Check.UNSUPPORTED);
        check.refused("_2 500000000000000000", "*", Check.UNSUPPORTED);
        check.program(MOST + " 1*", "3", MOST);
        check.program("1 " + MOST + "*", "3", MOST);
        check.program("0 " + MOST + "*", "3", "0");
        check.refused(MOST + " " + MOST, "*", Check.UNSUPPORTED);
        check.refused("_" + MOST + " " + MOST, "*", Check.UNSUPPORTED);
    }

    private static void negatives(Check check) {
        check.program(MOST + "~", "2", "-" + MOST);
        check.program("_" + MOST + "~", "2", MOST);
        check.program("0~", "2", "0");
        check.program("1~", "2", "-1");
        check.program("_1~", "2", "1");
    }

    /** "at most 18" digits, and "a number with more than 18 digits": zeros in front are digits, too */
    private static void digits(Check check) {
        check.program("12345678901234567", "1", "12345678901234567");
        check.program("123456789012345678", "1", "123456789012345678");
        check.refused("5 ", "1234567890123456789", Check.ARGUMENT);
        check.program("000000000000000001", "1", "1");
        check.refused("5 ", "0000000000000000001", Check.ARGUMENT);
        check.program("_000000000000000001", "1", "-1");
        check.refused("5", "_0000000000000000001", Check.ARGUMENT);
        check.program("12345678.123456789", "1", "12345678123456789:9");
        check.program("123456789.123456789", "1", "123456789123456789:9");
        check.refused("5 ", "1234567890.123456789", Check.ARGUMENT);
        check.program("12345678901234567.8", "1", "123456789012345678:1");
        check.refused("5 ", "123456789012345678.9", Check.ARGUMENT);
        check.program("123456789012345678.", "1", "123456789012345678");
        check.refused("5 ", "1234567890123456789.", Check.ARGUMENT);
        check.program("123456789012345678.d", "2", "123456789012345678 123456789012345678");
        check.refused("", "1".repeat(160), Check.ARGUMENT);
    }

    /** "at most 9 digits behind the point", and "or 9 behind the point" */
    private static void digitsBehindThePoint(Check check) {
        check.program(".12345678", "1", "12345678:8");
        check.program(".123456789", "1", "123456789:9");
        check.refused("5 ", ".1234567890", Check.ARGUMENT);
        check.program("1.12345678", "1", "112345678:8");
        check.program("1.123456789", "1", "1123456789:9");
        check.refused("5 ", "1.1234567890", Check.ARGUMENT);
        check.program("_.000000001", "1", "-1:9");
        check.refused("5", "_.0000000001", Check.ARGUMENT);
        check.program(".000000000", "1", "0:9");
        check.refused("5 ", ".0000000000", Check.ARGUMENT);
    }

    /** "At least one digit", and "or without a digit" */
    private static void noDigit(Check check) {
        check.program("0", "1", "0");
        check.program("0.", "1", "0");
        check.program(".0", "1", "0:1");
        check.program("_0", "1", "0");
        for (String wrong : new String[] {".", "_", "_.", "__1", "_ 1", "_\n1", ". 1", "._1", "..1", "_..1", "_d", ".d", "_[1]"}) {
            check.refused("5 ", wrong, Check.ARGUMENT);
        }
        // The end of a macro's text is the end of the number, whatever stands behind the macro.
        check.refused("5[@]x1", "_", Check.ARGUMENT);
        check.refused("5[@]x1", ".", Check.ARGUMENT);
    }

    /** "at most one point before, between or behind them", and "a second point begins another number" */
    private static void points(Check check) {
        check.program(".12", "1", "12:2");
        check.program("1.2", "1", "12:1");
        check.program("12.", "1", "12");
        check.program("_.12", "1", "-12:2");
        check.program("_12.", "1", "-12");
        check.program("1.2.3", "2", "12:1 3:1");
        check.program("1..2", "2", "1 2:1");
        check.program(".1.2", "2", "1:1 2:1");
        check.program("1.2.3.", Check.ARGUMENT, "12:1 3:1");
        check.program("1..", Check.ARGUMENT, "1");
        check.program(".123456789.123456789", "2", "123456789:9 123456789:9");
        check.program("123456789.123456789.5", "2", "123456789123456789:9 5:1");
    }

    /** "the row is as long as it can be" */
    private static void longestRow(Check check) {
        check.program("12", "1", "12");
        check.program("1 2", "2", "1 2");
        check.program("1\n2", "2", "1 2");
        check.program("1. 2", "2", "1 2");
        check.program("1 .2", "2", "1 2:1");
        check.program("1[2]3", "3", "1 [1] 3");
        check.program("[1]x2", "4", "1 2");
        check.program("1d2", "3", "1 1 2");
        check.program("/0", Check.STATE, "");
        check.refused("5", ":", Check.ARGUMENT);
    }

    /** "before them possibly _" */
    private static void sign(Check check) {
        check.program("_1", "1", "-1");
        check.program("_1_2", "2", "-1 -2");
        check.program("1_2", "2", "1 -2");
        check.program("1._2", "2", "1 -2");
        check.program("_1.5_.5", "2", "-15:1 -5:1");
        check.program("1_", Check.ARGUMENT, "1");
    }

    /** "(2, 0) and (20, 1) are different numbers of the same value" */
    private static void sameValue(Check check) {
        check.program("2 2.0", "2", "2 20:1");
        check.program("[7]sa2 2.0=a", "6", "7");
        check.program("[7]sa2.0 2=a", "6", "7");
        check.program("[7]sa0 .000000000=a", "6", "7");
        check.program("[7]sa2 2.0<a2 2.0>a", "8", "");
    }

    /** "a result has ... more than 9 places": only the one of % can */
    private static void placesOfResults(Check check) {
        check.program("7k1 .7%", "5", "2:8");
        check.program("8k1 .7%", "5", "6:9");
        check.refused("9k1 .7", "%", Check.UNSUPPORTED);
        check.program("9k1 7%", "5", "6:9");
        check.program("0k.000000001d%", "5", "0:9");
        check.refused("1k0 .000000001", "%", Check.UNSUPPORTED);
        check.refused("9k0 .000000001", "%", Check.UNSUPPORTED);
        check.refused("9k.000000001 .1", "%", Check.UNSUPPORTED);
        check.program("9k.000000001 1%", "5", "0:9");
        check.program("9k.00001 .0001*", "5", "1:9");
        check.program("9k.00001 .00010*", "5", "1:9");
        check.program("9k.000000001 1.000000000*", "5", "1:9");
    }
}

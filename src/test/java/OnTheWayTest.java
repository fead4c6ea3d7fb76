/** Terms, promise 4: "a number on the way, as said below, has more than 18 digits", command by command. */
final class OnTheWayTest {
    private static final String MOST = "999999999999999999";

    public static void main(String[] args) {
        Check check = new Check();
        sumsAndDifferences(check);
        comparisons(check);
        comparisonsThatDoNotHold(check);
        products(check);
        quotientsOfRaisedX(check);
        quotientsOfNothingRaised(check);
        quotientsOfRaisedY(check);
        remainders(check);
        roots(check);
        check.end();
    }

    /** "x and y brought to the greater of their places, for + - ..." */
    private static void sumsAndDifferences(Check check) {
        for (String command : new String[] {"+", "-"}) {
            check.program("99999999999999999 .0" + command, "3", "999999999999999990:1");
            check.refused("100000000000000000 .0", command, Check.UNSUPPORTED);
            check.refused(".0 100000000000000000", command, Check.UNSUPPORTED);
            check.program("_99999999999999999 .0" + command, "3", "-999999999999999990:1");
            check.refused("_100000000000000000 .0", command, Check.UNSUPPORTED);
            check.program("999999999 .000000000" + command, "3", "999999999000000000:9");
            check.refused("1000000000 .000000000", command, Check.UNSUPPORTED);
            check.refused(".000000000 1000000000", command, Check.UNSUPPORTED);
            check.program("0 .000000000" + command, "3", "0:9");
            // Between equal places nothing is brought anywhere.
            check.program(MOST + " 0" + command, "3", MOST);
            check.program("999999999.999999999 .000000000" + command, "3", MOST + ":9");
        }
        check.program(".0 99999999999999999+", "3", "999999999999999990:1");
        check.program(".0 99999999999999999-", "3", "-999999999999999990:1");
        check.program(".000000000 999999999+", "3", "999999999000000000:9");
        check.program("99999999999999999 99999999999999999.9-", "3", "-9:1");
        // The difference would be .1, but x has 19 digits on the way.
        check.refused("100000000000000000 99999999999999999.9", "-", Check.UNSUPPORTED);
        check.refused("99999999999999999.9 _100000000000000000", "+", Check.UNSUPPORTED);
    }

    /** "... and comparisons", which then hold */
    private static void comparisons(Check check) {
        check.program("[7]sa99999999999999999 .0<a", "6", "7");
        check.program("[7]sa.0 99999999999999999>a", "6", "7");
        check.program("[7]sa99999999999999999 99999999999999999.0=a", "6", "7");
        check.program("[7]sa999999999 .000000000<a", "6", "7");
        check.program("[7]sa0 .000000000=a", "6", "7");
        check.program("[7]sa" + MOST + " " + MOST + "=a", "6", "7");
        check.program("[7]sa_99999999999999999 .0>a", "6", "7");
        for (String command : new String[] {"<a", ">a", "=a"}) {
            check.refused("[7]sa100000000000000000 .0", command, Check.UNSUPPORTED);
            check.refused("[7]sa.0 100000000000000000", command, Check.UNSUPPORTED);
            check.refused("[7]sa_100000000000000000 .0", command, Check.UNSUPPORTED);
            check.refused("[7]sa.0 _100000000000000000", command, Check.UNSUPPORTED);
            check.refused("[7]sa1000000000 .000000000", command, Check.UNSUPPORTED);
            check.refused("[7]sa.000000000 1000000000", command, Check.UNSUPPORTED);
        }
    }

    private static void comparisonsThatDoNotHold(Check check) {
        check.program("99999999999999999 .0>a", "3", "");
        check.program("99999999999999999 .0=a", "3", "");
        check.program(".0 99999999999999999<a", "3", "");
        check.program("999999999 .000000000>a", "3", "");
        check.program("999999999.999999999 .000000000>a", "3", "");
    }

    /** "for * the whole product before places are cut off" */
    private static void products(Check check) {
        check.program("999999999 1000000001*", "3", MOST);
        check.refused("1000000000 1000000000", "*", Check.UNSUPPORTED);
        check.program("9999999.99 10000000.01*", "3", "9999999999999999:2");
        check.refused("10000000.00 10000000.00", "*", Check.UNSUPPORTED);
        check.refused("_10000000.00 10000000.00", "*", Check.UNSUPPORTED);
        check.program(".999999999 .999999999*", "3", "999999998:9");
        check.program(".999999999 1.000000001*", "3", "999999999:9");
        check.refused("1.000000000 1.000000000", "*", Check.UNSUPPORTED);
        check.program(".000000000 999999999.999999999*", "3", "0:9");
    }

    /** "for /, x times 10 to the power of K plus y's places minus x's places, if that power is above 0" */
    private static void quotientsOfRaisedX(Check check) {
        check.program("1k99999999999999999 1/", "5", "999999999999999990:1");
        check.refused("1k100000000000000000 1", "/", Check.UNSUPPORTED);
        check.refused("1k_100000000000000000 1", "/", Check.UNSUPPORTED);
        check.refused("1k100000000000000000 " + MOST, "/", Check.UNSUPPORTED);
        check.program("99999999999999999 1.0/", "3", "99999999999999999");
        check.refused("100000000000000000 1.0", "/", Check.UNSUPPORTED);
        check.program("2k9999999999999999.9 1/", "5", "999999999999999990:2");
        check.refused("2k10000000000000000.0 1", "/", Check.UNSUPPORTED);
        check.program("9k999999999 1/", "5", "999999999000000000:9");
        check.refused("9k1000000000 1", "/", Check.UNSUPPORTED);
        check.program("9k9 .00000001/", "5", "900000000000000000:9");
        check.refused("9k10 .00000001", "/", Check.UNSUPPORTED);
        check.program("9k0 .000000001/", "5", "0:9");
        check.refused("9k1 .000000001", "/", Check.UNSUPPORTED);
        check.program("9k.9 .000000001/", "5", "900000000000000000:9");
    }

    private static void quotientsOfNothingRaised(Check check) {
        check.program(MOST + " 1/", "3", MOST);
        check.program(MOST + " " + MOST + "/", "3", "1");
        check.program("1k99999999999999999.9 1/", "5", MOST + ":1");
        check.program("99999999999999999.9 .1/", "3", MOST);
        check.program("9k999999999.999999999 _1/", "5", "-" + MOST + ":9");
        check.program("999999999.999999999 .000000001/", "3", MOST);
    }

    /** "(if it is below 0, y times 10 to the power of its opposite instead)" */
    private static void quotientsOfRaisedY(Check check) {
        check.program("99999999999999999.9 99999999999999999/", "3", "1");
        check.program("99999999999999998.9 99999999999999999/", "3", "0");
        check.refused("99999999999999999.9 100000000000000000", "/", Check.UNSUPPORTED);
        check.refused(".1 100000000000000000", "/", Check.UNSUPPORTED);
        check.refused(".0 _100000000000000000", "/", Check.UNSUPPORTED);
        check.program("1k.01 99999999999999999/", "5", "0:1");
        check.refused("1k.01 100000000000000000", "/", Check.UNSUPPORTED);
        check.program(".12 9999999999999999.9/", "3", "0");
        check.program("1.000000000 999999999/", "3", "0");
        check.refused("1.000000000 1000000000", "/", Check.UNSUPPORTED);
        check.program("999999999.999999999 999999999/", "3", "1");
    }

    /** "for %, what is said for /": what else is on the way of % is never greater than that. */
    private static void remainders(Check check) {
        check.program("1k99999999999999999 1%", "5", "0:1");
        check.refused("1k100000000000000000 1", "%", Check.UNSUPPORTED);
        check.refused("1k_100000000000000000 1", "%", Check.UNSUPPORTED);
        check.program("99999999999999999 1.0%", "3", "0:1");
        check.refused("100000000000000000 1.0", "%", Check.UNSUPPORTED);
        check.program("9k999999999 1%", "5", "0:9");
        check.refused("9k1000000000 1", "%", Check.UNSUPPORTED);
        check.program(MOST + " 1%", "3", "0");
        check.program(MOST + " " + MOST + "%", "3", "0");
        check.program("999999999999999998 " + MOST + "%", "3", "999999999999999998");
        check.program("999999999.999999999 .000000001%", "3", "0:9");
        check.program("99999999999999999.9 99999999999999999%", "3", "9:1");
        check.program("99999999999999998.9 99999999999999999%", "3", "999999999999999989:1");
        check.refused("99999999999999999.9 100000000000000000", "%", Check.UNSUPPORTED);
        check.refused(".0 100000000000000000", "%", Check.UNSUPPORTED);
        check.program("1.000000000 999999999%", "3", "1000000000:9");
        check.refused("1.000000000 1000000000", "%", Check.UNSUPPORTED);
        check.program("999999999.999999999 999999999%", "3", "999999999:9");
    }

    /** "for v, y times 10 to the power of twice the result's places minus y's places" */
    private static void roots(Check check) {
        check.program(MOST + "v", "2", "999999999");
        check.program("1k9999999999999999v", "4", "999999999:1");
        check.refused("1k10000000000000000", "v", Check.UNSUPPORTED);
        check.program("9999999999999999.9v", "2", "999999999:1");
        check.refused("10000000000000000.0", "v", Check.UNSUPPORTED);
        check.program("2k99999999999999.9v", "4", "999999999:2");
        check.refused("2k100000000000000.0", "v", Check.UNSUPPORTED);
        check.program("8k99v", "4", "994987437:8");
        check.refused("8k100", "v", Check.UNSUPPORTED);
        check.program("9k0v", "4", "0:9");
        check.refused("9k1", "v", Check.UNSUPPORTED);
        check.program("9k.9v", "4", "948683298:9");
        check.refused("9k1.0", "v", Check.UNSUPPORTED);
        check.program(".999999999v", "2", "999999999:9");
        check.refused("1.000000000", "v", Check.UNSUPPORTED);
        check.refused("9k1.000000000", "v", Check.UNSUPPORTED);
    }
}

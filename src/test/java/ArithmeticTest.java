/** Promise 4: + - * / % v ~ and what is said of them on the way. */
final class ArithmeticTest {
    private static final String MOST = "999999999999999999";

    public static void main(String[] args) {
        Check check = new Check();
        sums(check);
        products(check);
        quotients(check);
        remainders(check);
        roots(check);
        negatives(check);
        check.end();
    }

    private static void sums(Check check) {
        check.program("1 2+", "3", "3");
        check.program("1.5 2.25+", "3", "375:2");
        check.program("5 7-", "3", "-2");
        check.program("2.50 .5-", "3", "200:2");
        check.program("1 1.000-", "3", "0:3");
        check.program("_1.5 _2+", "3", "-35:1");
        check.program("7k1.5 2+", "5", "35:1");
        check.program(MOST + " 0+", "3", MOST);
        check.program(MOST + " 1+", Check.UNSUPPORTED, MOST + " 1");
        check.program("_" + MOST + " 1-", Check.UNSUPPORTED, "-" + MOST + " 1");
        check.program("_" + MOST + " _1-", "3", "-999999999999999998");
        check.program(MOST + " " + MOST + "-", "3", "0");
        check.program("99999999999999999 .9+", "3", "999999999999999999:1");
        check.program("100000000000000000 .0-", Check.UNSUPPORTED, "100000000000000000 0:1");
        check.program(".000000000 1000000000+", Check.UNSUPPORTED, "0:9 1000000000");
        check.program("0 .000000001-", "3", "-1:9");
        // The difference would have 18 digits, but x does not on the way.
        check.program("100000000000000000 1.0-", Check.UNSUPPORTED, "100000000000000000 10:1");
    }

    private static void products(Check check) {
        check.program("6 7*", "3", "42");
        check.program("1.5 1.5*", "3", "22:1");
        check.program("2k1.5 1.5*", "5", "225:2");
        check.program("9k1.5 1.5*", "5", "225:2");
        check.program("_1.5 1.5*", "3", "-22:1");
        check.program("1.25 .5*", "3", "62:2");
        check.program("3k1.25 .5*", "5", "625:3");
        check.program(".1 .1*", "3", "0:1");
        check.program("2.0 3*", "3", "60:1");
        check.program("999999999 1000000001*", "3", MOST);
        check.program("1000000000 1000000000*", Check.UNSUPPORTED, "1000000000 1000000000");
        check.program("_1000000000 1000000000*", Check.UNSUPPORTED, "-1000000000 1000000000");
        check.program(MOST + " _1*", "3", "-" + MOST);
        check.program(MOST + " 0*", "3", "0");
        // Cut off, the product would have 17 digits; the whole product has 19.
        check.program("10000000.00 10000000.00*", Check.UNSUPPORTED, "1000000000:2 1000000000:2");
        check.program("9k.000000001 .000000001*", "5", "0:9");
    }

    private static void quotients(Check check) {
        check.program("7 2/", "3", "3");
        check.program("2k7 3/", "5", "233:2");
        check.program("2k_7 3/", "5", "-233:2");
        check.program("7 _2/", "3", "-3");
        check.program("1.00 3/", "3", "0");
        check.program("7.5 2.5/", "3", "3");
        check.program("1k1 .25/", "5", "40:1");
        check.program("1k123.456 2/", "5", "617:1");
        check.program("0 5/", "3", "0");
        check.program("1 0/", Check.ARITHMETIC, "1 0");
        check.program("1 0.00/", Check.ARITHMETIC, "1 0:2");
        check.program("9k100000000 1/", "5", "100000000000000000:9");
        check.program("9k1000000000 1/", Check.UNSUPPORTED, "1000000000 1");
        check.program("9k0 .000000001/", "5", "0:9");
        check.program("9k1 .000000001/", Check.UNSUPPORTED, "1 1:9");
        check.program("1.000000000 1000000000/", Check.UNSUPPORTED, "1000000000:9 1000000000");
        check.program("1.000000000 999999999/", "3", "0");
        check.program(MOST + " " + MOST + "/", "3", "1");
        // y is 0 comes before what is said on the way.
        check.program("9k" + MOST + " 0/", Check.ARITHMETIC, MOST + " 0");
    }

    private static void remainders(Check check) {
        check.program("7 3%", "3", "1");
        check.program("_7 3%", "3", "-1");
        check.program("7 _3%", "3", "1");
        check.program("7.5 2%", "3", "15:1");
        check.program("7 .3%", "3", "1:1");
        check.program("2k10 4%", "5", "0:2");
        check.program("2k10 3%", "5", "1:2");
        check.program("1k7.25 .5%", "5", "0:2");
        check.program("1k1.234 .5%", "5", "34:3");
        check.program("1.23456 5.0%", "3", "123456:5");
        check.program("5 0%", Check.ARITHMETIC, "5 0");
        check.program("9k5 .0%", Check.ARITHMETIC, "5 0:1");
        check.program("9k1 .7%", Check.UNSUPPORTED, "1 7:1");
        check.program("8k1 .7%", "5", "6:9");
        check.program("9k1 7%", "5", "6:9");
        check.program("9k1000000000 7%", Check.UNSUPPORTED, "1000000000 7");
        check.program("1.000000000 1000000000%", Check.UNSUPPORTED, "1000000000:9 1000000000");
        check.program("1.000000000 999999999%", "3", "1000000000:9");
        // x comes to 19 digits with the result's places, as it does on the way of /.
        check.program("1k100000000000000000 3%", Check.UNSUPPORTED, "100000000000000000 3");
    }

    private static void roots(Check check) {
        check.program("9v", "2", "3");
        check.program("2v", "2", "1");
        check.program("4k2v", "4", "14142:4");
        check.program("2.00v", "2", "141:2");
        check.program("1k2.00v", "4", "141:2");
        check.program("0v", "2", "0");
        check.program("3k0v", "4", "0:3");
        check.program(".5v", "2", "7:1");
        check.program("99v", "2", "9");
        check.program(MOST + "v", "2", "999999999");
        check.program("999999998000000001v", "2", "999999999");
        check.program("999999998000000000v", "2", "999999998");
        check.program("_1v", Check.ARITHMETIC, "-1");
        check.program("_.000000001v", Check.ARITHMETIC, "-1:9");
        check.program("9k1v", Check.UNSUPPORTED, "1");
        check.program("9k1.0v", Check.UNSUPPORTED, "10:1");
        check.program("9k.0v", "4", "0:9");
        check.program("9k.9v", "4", "948683298:9");
        check.program(".999999999v", "2", "999999999:9");
        check.program("8k99v", "4", "994987437:8");
        check.program("8k100v", Check.UNSUPPORTED, "100");
        check.program("9k_1v", Check.ARITHMETIC, "-1");
    }

    private static void negatives(Check check) {
        check.program("5~", "2", "-5");
        check.program("_1.50~", "2", "150:2");
        check.program("0.0~", "2", "0:1");
        check.program(MOST + "~", "2", "-" + MOST);
    }
}

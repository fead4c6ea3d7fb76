/** Terms, promise 4: the places of results, where they are cut off, and K. */
final class PlacesTest {
    public static void main(String[] args) {
        Check check = new Check();
        sums(check);
        products(check);
        cutProducts(check);
        quotients(check);
        cutQuotients(check);
        remainders(check);
        signsOfRemainders(check);
        roots(check);
        placesOfRoots(check);
        zeroAsDivisor(check);
        rootsBelowZero(check);
        whatKBecomes(check);
        whatKMayNotBe(check);
        placesOfTheTop(check);
        check.end();
    }

    /** "with the greater of their places", whatever K is */
    private static void sums(Check check) {
        for (String k : new String[] {"0k", "1k", "2k", "3k", "9k"}) {
            check.program(k + "1.5 1.25+", "5", "275:2");
            check.program(k + "1.25 1.5+", "5", "275:2");
            check.program(k + "1.25 1.50-", "5", "-25:2");
            check.program(k + "1 1-", "5", "0");
            check.program(k + "1 1.000000000-", "5", "0:9");
        }
    }

    /** "with as many places as the sum of theirs, but not more than the greatest of K and theirs" */
    private static void products(Check check) {
        String[] ofThreePlaces = {"62:2", "62:2", "62:2", "625:3", "625:3"};
        for (int k = 0; k < ofThreePlaces.length; k++) {
            check.program(k + "k1.25 .5*", "5", ofThreePlaces[k]);
            check.program(k + "k.5 1.25*", "5", ofThreePlaces[k]);
            check.program(k + "k_1.25 .5*", "5", "-" + ofThreePlaces[k]);
        }
        for (int k = 0; k < 3; k++) {
            check.program(k + "k2.5 3*", "5", "75:1");
            check.program(k + "k3 2.5*", "5", "75:1");
            check.program(k + "k2 3*", "5", "6");
        }
    }

    /** "further places are cut off (towards 0)" */
    private static void cutProducts(Check check) {
        check.program(".3 .3*", "3", "0:1");
        check.program(".4 .5*", "3", "2:1");
        check.program(".9 .9*", "3", "8:1");
        check.program("_.9 .9*", "3", "-8:1");
        check.program("_.9 _.9*", "3", "8:1");
        check.program("_.3 .3*", "3", "0:1");
        check.program(".000000001 .000000001*", "3", "0:9");
        check.program("9k.000000001 .999999999*", "5", "0:9");
    }

    /** "x / y with K places" */
    private static void quotients(Check check) {
        check.program("7 2/", "3", "3");
        check.program("1k7 2/", "5", "35:1");
        check.program("8k7 2/", "5", "350000000:8");
        check.program("9k7 2/", "5", "3500000000:9");
        check.program("7.000 2.00/", "3", "3");
        check.program("1k7.000 2.00/", "5", "35:1");
        check.program("1 2/", "3", "0");
        check.program("2 2/", "3", "1");
        check.program("3 2/", "3", "1");
        check.program("4 2/", "3", "2");
        check.program("0 2/", "3", "0");
    }

    /** "cut off" */
    private static void cutQuotients(Check check) {
        check.program("_7 2/", "3", "-3");
        check.program("7 _2/", "3", "-3");
        check.program("_7 _2/", "3", "3");
        check.program("_1 2/", "3", "0");
        check.program("2k2 3/", "5", "66:2");
        check.program("2k_2 3/", "5", "-66:2");
        check.program("1.9 1/", "3", "1");
        check.program("_1.9 1/", "3", "-1");
        check.program(".999999999 1/", "3", "0");
        check.program("_.999999999 1/", "3", "0");
    }

    /** "with the greater of K + y's places and x's places" */
    private static void remainders(Check check) {
        check.program("7.25 .5%", "3", "25:2");
        check.program("1k7.25 .5%", "5", "0:2");
        check.program("2k7.25 .5%", "5", "0:3");
        check.program("7 .3%", "3", "1:1");
        check.program("7.0 .3%", "3", "1:1");
        check.program("7.00 .3%", "3", "10:2");
        check.program("1k7.00 3%", "5", "10:2");
        check.program("2k7.00 3%", "5", "1:2");
        check.program("3k7.00 3%", "5", "1:3");
        check.program("6 7%", "3", "6");
        check.program("7 7%", "3", "0");
        check.program("8 7%", "3", "1");
    }

    /** "x - q * y, where q is what / gives": q is cut off towards 0 */
    private static void signsOfRemainders(Check check) {
        check.program("_7 3%", "3", "-1");
        check.program("7 _3%", "3", "1");
        check.program("_7 _3%", "3", "-1");
        check.program("_2 3%", "3", "-2");
        check.program("_3 3%", "3", "0");
        check.program("1k_7 3%", "5", "-1:1");
    }

    /** "the greatest number not above its square root" */
    private static void roots(Check check) {
        check.program("0v", "2", "0");
        check.program("1v", "2", "1");
        check.program("3v", "2", "1");
        check.program("4v", "2", "2");
        check.program("5v", "2", "2");
        check.program("24v", "2", "4");
        check.program("25v", "2", "5");
        check.program("26v", "2", "5");
        check.program(".24v", "2", "48:2");
        check.program(".25v", "2", "50:2");
        check.program(".26v", "2", "50:2");
        check.program("999999998000000000v", "2", "999999998");
        check.program("999999998000000001v", "2", "999999999");
        check.program("999999998000000002v", "2", "999999999");
        check.program(".000000001v", "2", "31622:9");
    }

    /** "with the greater of K and y's places as its places" */
    private static void placesOfRoots(Check check) {
        check.program("2v", "2", "1");
        check.program("1k2v", "4", "14:1");
        check.program("1k2.00v", "4", "141:2");
        check.program("2k2.00v", "4", "141:2");
        check.program("3k2.00v", "4", "1414:3");
        check.program("8k2v", "4", "141421356:8");
        check.program("9k.000000000v", "4", "0:9");
    }

    /** "y is 0 in / or %" */
    private static void zeroAsDivisor(Check check) {
        for (String command : new String[] {"/", "%"}) {
            check.refused("1 0", command, Check.ARITHMETIC);
            check.refused("0 0", command, Check.ARITHMETIC);
            check.refused("2k1.5 _0.00", command, Check.ARITHMETIC);
            check.refused("1 .000000000", command, Check.ARITHMETIC);
            check.program("0 1" + command, "3", "0");
            check.program("0 _1" + command, "3", "0");
        }
        check.program("1 .000000001/", "3", "1000000000");
        check.program("1 _.000000001/", "3", "-1000000000");
        check.program("1 .000000001%", "3", "0:9");
        check.program("1 _.000000001%", "3", "0:9");
    }

    /** "is below 0 in v" */
    private static void rootsBelowZero(Check check) {
        check.refused("5 _1", "v", Check.ARITHMETIC);
        check.refused("_.000000001", "v", Check.ARITHMETIC);
        check.refused("_999999999999999999", "v", Check.ARITHMETIC);
        check.program("_0v", "2", "0");
        check.program("_.0v", "2", "0:1");
        check.program("1v", "2", "1");
    }

    /** "k : y is taken, a number with a whole value 0 .. 9, which K becomes", and "K : K is put on, (K, 0)" */
    private static void whatKBecomes(Check check) {
        check.program("K", "1", "0");
        for (int k = 0; k <= 9; k++) {
            for (String written : new String[] {"", ".", ".0", ".000000000"}) {
                DeskStack desk = check.program("4k5 " + k + written + "kK", "6", "5 " + k);
                check.due("precision()", desk.precision(), k);
            }
        }
        check.due("precision()", check.program("4k_0k", "4", "").precision(), 0);
    }

    /** "or is no whole number 0 .. 9 in k" */
    private static void whatKMayNotBe(Check check) {
        for (String wrong : new String[] {"_1", "10", "11", "_9", "_1.0", "10.0", ".1", "_.1", ".9", "8.9", "9.1", "9.5",
                "_.000000001", ".000000001", "8.999999999", "9.000000001", "10.000000000",
                "999999999999999999", "_999999999999999999", "4294967296", "256", "_4294967295"}) {
            check.refused("4k" + wrong, "k", Check.ARITHMETIC);
            check.refused("4k5 " + wrong, "k", Check.ARITHMETIC);
        }
    }

    /** "X : the top's places are put on, and it is taken" */
    private static void placesOfTheTop(Check check) {
        check.program("5 7X", "3", "5 0");
        check.program("5 _.7X", "3", "5 1");
        check.program("5 7.00000000X", "3", "5 8");
        check.program("5 7.000000000X", "3", "5 9");
        check.program("9k0 1/X", "6", "9");
        check.refused("5[7.5]", "X", Check.INDEX);
    }
}

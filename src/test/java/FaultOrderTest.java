/**
 * Terms, promise 4: "FAULTS of a command, the first that holds": commands for which several hold.
 * That the fuel comes before them all stands in FuelBoundsTest.
 */
final class FaultOrderTest {
    private static final String FULL = "1" + "d".repeat(39);
    private static final String MOST = "999999999999999999";

    public static void main(String[] args) {
        Check check = new Check();
        writingBeforeTooFew(check);
        writingBeforeTooMany(check);
        tooFewBeforeKinds(check);
        tooFewBeforeTooMany(check);
        kindsBeforeValues(check);
        valuesBeforeTheWay(check);
        numbersBeforeTheRegister(check);
        registerBeforeTexts(check);
        earlierCommandsStay(check);
        check.end();
    }

    /** IllegalArgumentException before IllegalStateException */
    private static void writingBeforeTooFew(Check check) {
        for (String command : new String[] {"s", "S", "l", "L", "<", ">", "="}) {
            check.refused("", command, Check.ARGUMENT);
            check.refused("", command + "e", Check.ARGUMENT);
            check.refused("", command + "A", Check.ARGUMENT);
        }
        check.refused("[]1", "=e", Check.ARGUMENT);
        check.refused("[][]", "<e", Check.ARGUMENT);
        check.refused(MOST + " 1.0", ">e", Check.ARGUMENT);
    }

    /** IllegalArgumentException before UnsupportedOperationException */
    private static void writingBeforeTooMany(Check check) {
        for (String command : new String[] {"?", "[", "[[]", "]", "_", ".", " 1234567890123456789", " .1234567890", "le", "L", "sl"}) {
            check.refused(FULL, command, Check.ARGUMENT);
        }
        check.refused("5Sa".repeat(10) + "1", "S", Check.ARGUMENT);
    }

    /** IllegalStateException before IndexOutOfBoundsException */
    private static void tooFewBeforeKinds(Check check) {
        for (String command : new String[] {"+", "-", "*", "/", "%", "<a", ">a", "=a"}) {
            check.refused("[7]", command, Check.STATE);
        }
        // Nor does a y that / could not divide by matter when there is no x.
        check.refused("0", "/", Check.STATE);
        check.refused("0", "%", Check.STATE);
    }

    /** IllegalStateException before UnsupportedOperationException */
    private static void tooFewBeforeTooMany(Check check) {
        check.refused(FULL, "la", Check.STATE);
        check.refused(FULL, "La", Check.STATE);
        check.refused("5Sa".repeat(10), "Sa", Check.STATE);
    }

    /** IndexOutOfBoundsException before ArithmeticException */
    private static void kindsBeforeValues(Check check) {
        check.refused("[7]0", "/", Check.INDEX);
        check.refused("[7]0", "%", Check.INDEX);
        check.refused("0[7]", "/", Check.INDEX);
        for (String command : new String[] {"+", "-", "*", "/", "%", "<a", ">a", "=a"}) {
            check.refused("[8]sa7[7]", command, Check.INDEX);
            check.refused("[8]sa[7]7", command, Check.INDEX);
            check.refused("[8]sa[7][7]", command, Check.INDEX);
        }
        for (String command : new String[] {"v", "~", "k", "X"}) {
            check.refused("[7]", command, Check.INDEX);
            check.refused("7[]", command, Check.INDEX);
            check.refused("7[12345678901]", command, Check.INDEX);
        }
    }

    /** ArithmeticException before UnsupportedOperationException */
    private static void valuesBeforeTheWay(Check check) {
        check.refused("9k" + MOST + " 0", "/", Check.ARITHMETIC);
        check.refused("9k" + MOST + " 0", "%", Check.ARITHMETIC);
        check.refused("9k1 .000000000", "%", Check.ARITHMETIC);
        check.refused("9k_" + MOST, "v", Check.ARITHMETIC);
        check.refused("9k_1", "v", Check.ARITHMETIC);
    }

    /** "In a condition all that is said of x and y, the comparison with its way included, comes before ..." */
    private static void numbersBeforeTheRegister(Check check) {
        for (String command : new String[] {"<b", ">b", "=b"}) {
            check.refused(MOST + " 1.0", command, Check.UNSUPPORTED);
            check.refused("1.0 " + MOST, command, Check.UNSUPPORTED);
            check.refused("5Sb" + MOST + " 1.0", command, Check.UNSUPPORTED);
            check.refused("5Sb1.0 " + MOST, command, Check.UNSUPPORTED);
            check.refused("7[7]", command, Check.INDEX);
            check.refused("[7]7", command, Check.INDEX);
        }
    }

    /** What is said of the register comes before a 13th text. */
    private static void registerBeforeTexts(Check check) {
        String deep = "@";
        for (int i = 1; i < 12; i++) {
            deep = "[" + deep + "]xK";
        }
        check.refused(deep.replace("@", "1d@5"), "=a", Check.STATE);
        check.refused("5sa" + deep.replace("@", "1d@5"), "=a", Check.INDEX);
        check.refused("[5]sa" + deep.replace("@", "1d@5"), "=a", Check.UNSUPPORTED);
        check.refused("[5]sa" + deep.replace("@", "1@5"), "=a", Check.STATE);
        check.refused("[5]sa" + deep.replace("@", "[]1@5"), "=a", Check.INDEX);
        check.refused("[5]sa" + deep.replace("@", "@5"), "x", Check.STATE);
    }

    /** "ends the run; what was done before it stays, and its cost is not counted" */
    private static void earlierCommandsStay(Check check) {
        for (String command : new String[] {"?", "La", "[]v", " 1 0/", MOST + " d+"}) {
            DeskStack desk = new DeskStack();
            Check.write(desk, "2k5p[7]Sb" + command + "8p9Sc");
            String answer = Check.run(desk, Check.FUEL);
            check.due(command + " has a fault", Boolean.toString(answer.startsWith("throws.")), "true");
            check.due("precision()", desk.precision(), 2);
            check.due("prints", Check.prints(desk), "5");
            check.due("held", Check.held(desk), "0 1 0 0");
            check.due("the lowest item", desk.item(desk.depth() - 1), 5);
        }
    }
}

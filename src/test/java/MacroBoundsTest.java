/** Terms, promise 4: how many texts are under way, which is left first, conditions on their bounds, and q. */
final class MacroBoundsTest {
    private static final int LIMIT = 12;
    private static final String[] MACROS = {"[7]x", "1d=a", "2 1<a", "1 2>a"};
    private static final int[] COSTS = {2, 3, 3, 3};

    public static void main(String[] args) {
        Check check = new Check();
        textsUnderWay(check);
        thirteenthText(check);
        nothingRun(check);
        leftFirst(check);
        notLeftFirst(check);
        programLeftFirst(check);
        oneAfterAnother(check);
        anewInEachRun(check);
        behindTheMacro(check);
        below(check);
        above(check);
        equal(check);
        numbersAndTexts(check);
        ends(check);
        check.end();
    }

    /** A program in which this many texts are under way where @ stands, and each has a command behind its macro. */
    private static String nested(int texts) {
        String program = "@";
        for (int i = 1; i < texts; i++) {
            program = "[" + program + "]xK";
        }
        return program;
    }

    /** How many commands stand before @ and behind it, in all texts. */
    private static int costAround(int texts) {
        return 3 * (texts - 1);
    }

    private static String zeros(int count) {
        return " 0".repeat(count);
    }

    /** "At most 12 texts are under way at once, the program among them" */
    private static void textsUnderWay(Check check) {
        for (int i = 0; i < MACROS.length; i++) {
            for (int texts = LIMIT - 2; texts < LIMIT; texts++) {
                String program = "[7]sa" + nested(texts).replace("@", MACROS[i] + "5");
                int cost = 2 + costAround(texts) + COSTS[i] + 2;
                check.program(program, Integer.toString(cost), "7 5" + zeros(texts - 1));
            }
        }
    }

    /** "a 13th text would be under way" */
    private static void thirteenthText(Check check) {
        check.refused("[7]sa" + nested(LIMIT).replace("@", "[7]@5"), "x", Check.UNSUPPORTED);
        check.refused("[7]sa" + nested(LIMIT).replace("@", "1d@5"), "=a", Check.UNSUPPORTED);
        check.refused("[7]sa" + nested(LIMIT).replace("@", "2 1@5"), "<a", Check.UNSUPPORTED);
        check.refused("[7]sa" + nested(LIMIT).replace("@", "1 2@5"), ">a", Check.UNSUPPORTED);
        check.refused("[]sa" + nested(LIMIT).replace("@", "[]@5"), "x", Check.UNSUPPORTED);
    }

    /** x of a number and a condition that does not hold run no text, so 12 stay 12. */
    private static void nothingRun(Check check) {
        check.program("[7]sa" + nested(LIMIT).replace("@", "3x5"), "38", "3 5" + zeros(11));
        for (String command : new String[] {"1 2=a", "1 2<a", "1 1<a", "2 1>a", "1 1>a"}) {
            check.program("[7]sa" + nested(LIMIT).replace("@", command + "5"), "39", "5" + zeros(11));
        }
    }

    /** "if nothing but blanks and characters 10 stands behind that command in its own text, that text is left first" */
    private static void leftFirst(Check check) {
        for (String behind : new String[] {"", " ", "\n", " \n\n ", "          "}) {
            for (int i = 0; i < MACROS.length; i++) {
                String program = "[7]sa" + nested(LIMIT).replace("@", MACROS[i] + behind);
                check.program(program, Integer.toString(2 + costAround(LIMIT) + COSTS[i] + 1), "7" + zeros(11));
            }
        }
    }

    private static void notLeftFirst(Check check) {
        for (String behind : new String[] {"D", "q", "\t", "\u000b", "\r", "?", " K", "\n1", "[]"}) {
            check.refused("[7]sa" + nested(LIMIT).replace("@", "[7]@" + behind), "x", Check.UNSUPPORTED);
            check.refused("[7]sa" + nested(LIMIT).replace("@", "1d@" + behind), "=a", Check.UNSUPPORTED);
        }
    }

    /** The program is a text as well: it is left before its last macro, and not before another one. */
    private static void programLeftFirst(Check check) {
        check.due("cost()", check.program("[laxK]salax", Check.UNSUPPORTED, "[4]").cost(), 27);
        check.due("cost()", check.program("[laxK]salax\n ", Check.UNSUPPORTED, "[4]").cost(), 27);
        check.due("cost()", check.program("[laxK]salaxK", Check.UNSUPPORTED, "[4]").cost(), 25);
        check.due("cost()", check.program("[lax]salax", Check.UNSUPPORTED, "").cost(), 500);
        check.due("cost()", check.program("[lax]salaxK", Check.UNSUPPORTED, "").cost(), 500);
        check.due("cost()", check.program("[lax \n]salaxK", Check.UNSUPPORTED, "").cost(), 500);
    }

    /** A text that has ended is no longer under way. */
    private static void oneAfterAnother(Check check) {
        check.program("[KD]sa" + "lax".repeat(30) + "5", "123", "5");
        check.program("[KD]sa" + nested(LIMIT - 1).replace("@", "lax".repeat(15) + "5"), "93", "5" + zeros(10));
    }

    private static void anewInEachRun(Check check) {
        DeskStack desk = new DeskStack();
        check.program(desk, nested(LIMIT).replace("@", "?"), Check.FUEL, Check.ARGUMENT, "");
        check.program(desk, nested(LIMIT).replace("@", "5"), Check.FUEL, "34", "5" + zeros(11));
        check.program(desk, "c" + nested(LIMIT).replace("@", "q"), Check.FUEL, "24", "");
        check.program(desk, nested(LIMIT).replace("@", "5"), 21, Check.UNSUPPORTED, "[1]");
        check.program(desk, "c" + nested(LIMIT).replace("@", "5"), Check.FUEL, "35", "5" + zeros(11));
    }

    /** "to do its commands and then to go on behind the command that ran it" */
    private static void behindTheMacro(Check check) {
        check.program("[1]x2", "4", "1 2");
        check.program("[[1]x2]x3", "7", "1 2 3");
        check.program("[1]sa5d=a2", "7", "1 2");
        check.program("[]x2", "3", "2");
        check.program("5x2", "3", "5 2");
        check.program("[1]sa4 5=a2", "6", "2");
    }

    /** "if y < x" */
    private static void below(Check check) {
        condition(check, "5 4", "<", true);
        condition(check, "5 5", "<", false);
        condition(check, "5 6", "<", false);
        condition(check, "5 4.999999999", "<", true);
        condition(check, "5 5.000000000", "<", false);
        condition(check, "5 5.000000001", "<", false);
        condition(check, "_5 _5.1", "<", true);
        condition(check, "_5 _4.9", "<", false);
        condition(check, "1 _1", "<", true);
        condition(check, "_1 1", "<", false);
        condition(check, "999999999999999999 _999999999999999999", "<", true);
    }

    /** "y > x" */
    private static void above(Check check) {
        condition(check, "5 4", ">", false);
        condition(check, "5 5", ">", false);
        condition(check, "5 6", ">", true);
        condition(check, "5.000000000 4.999999999", ">", false);
        condition(check, "5.000000000 5", ">", false);
        condition(check, "5.000000000 5.000000001", ">", true);
        condition(check, "_5 _5.1", ">", false);
        condition(check, "_5 _4.9", ">", true);
        condition(check, "0 .000000001", ">", true);
        condition(check, "0 _.000000001", ">", false);
        condition(check, "_999999999999999999 999999999999999999", ">", true);
    }

    /** "y = x (by value)" */
    private static void equal(Check check) {
        condition(check, "5 4", "=", false);
        condition(check, "5 5", "=", true);
        condition(check, "5 6", "=", false);
        condition(check, "5 4.999999999", "=", false);
        condition(check, "5 5.000000000", "=", true);
        condition(check, "5.000000000 5", "=", true);
        condition(check, "5 5.000000001", "=", false);
        condition(check, "5 _5", "=", false);
        condition(check, "0 _.0", "=", true);
        condition(check, "5 50", "=", false);
        condition(check, "5 .5", "=", false);
    }

    private static void condition(Check check, String numbers, String command, boolean holds) {
        check.program("[7]Sb3 " + numbers + command + "b", holds ? "7" : "6", holds ? "3 7" : "3");
        if (!holds) {
            // What is in the register does not matter then.
            check.program("3 " + numbers + command + "b", "4", "3");
            check.program("8Sb3 " + numbers + command + "b", "6", "3");
        } else {
            check.refused("3 " + numbers, command + "b", Check.STATE);
            check.refused("8Sb3 " + numbers, command + "b", Check.INDEX);
        }
    }

    /** "x : a text on top is taken ...; a number on top stays", and the register's text stays as well */
    private static void numbersAndTexts(Check check) {
        check.program("[7]5x", "3", "[1] 5");
        check.program("5[7]x", "4", "5 7");
        check.program("[][]x", "3", "[0]");
        check.due("held", Check.held(check.program("[7]Sa1d=a", "6", "7")), "1 0 0 0");
        check.due("held", Check.held(check.program("5Sa[7]Sa1d=a", "8", "7")), "2 0 0 0");
        check.refused("[7]Sa5Sa1d", "=a", Check.INDEX);
    }

    /** "q : the run ends", in all texts that are under way */
    private static void ends(Check check) {
        check.program("q", "1", "");
        check.program("q?", "1", "");
        check.program(nested(2).replace("@", "5q6"), "4", "5");
        check.program(nested(LIMIT).replace("@", "5q6"), "24", "5");
    }
}

/** Terms, promise 4: registers when they are empty, nearly full and full, and the letters that name them. */
final class RegisterBoundsTest {
    private static final int LIMIT = 10;
    private static final String LETTERS = "abcd";

    public static void main(String[] args) {
        Check check = new Check();
        for (int r = 0; r < LETTERS.length(); r++) {
            String letter = LETTERS.substring(r, r + 1);
            full(check, letter, r);
            fullTopReplaced(check, letter, r);
            topReplaced(check, letter, r);
            empty(check, letter);
            lastTaken(check, letter, r);
        }
        eachOnItsOwn(check);
        letters(check);
        letterAtTheEnd(check);
        check.end();
    }

    /** Puts the numbers 0, 1, 2 .. on the register. */
    private static String filled(String letter, int count) {
        StringBuilder program = new StringBuilder();
        for (int i = 0; i < count; i++) {
            program.append(i).append('S').append(letter);
        }
        return program.toString();
    }

    /** "of at most 10 items each", and "a register more than 10" */
    private static void full(Check check, String letter, int r) {
        check.due("held", check.program(filled(letter, LIMIT - 2) + "7S" + letter, "18", "").held(r), LIMIT - 1);
        check.due("held", check.program(filled(letter, LIMIT - 1) + "7S" + letter, "20", "").held(r), LIMIT);
        check.refused(filled(letter, LIMIT) + "5 7", "S" + letter, Check.UNSUPPORTED);
        check.refused(filled(letter, LIMIT) + "[7]", "S" + letter, Check.UNSUPPORTED);
        check.program(filled(letter, LIMIT) + "L" + letter + "7S" + letter, Integer.toString(2 * LIMIT + 3), "9");
    }

    /** "in place of its top if it has one": so a full register takes an item by s */
    private static void fullTopReplaced(Check check, String letter, int r) {
        DeskStack desk = check.program(filled(letter, LIMIT) + "7s" + letter, Integer.toString(2 * LIMIT + 2), "");
        check.due("held(" + r + ")", desk.held(r), LIMIT);
        check.program(desk, ("L" + letter).repeat(LIMIT), Check.FUEL, "10", "7 8 7 6 5 4 3 2 1 0");
    }

    private static void topReplaced(Check check, String letter, int r) {
        String replace = "7s" + letter;
        check.due("held", check.program(replace, "2", "").held(r), 1);
        check.due("held", check.program("5S" + letter + replace, "4", "").held(r), 1);
        check.due("held", check.program("5S" + letter + "6S" + letter + replace, "6", "").held(r), 2);
        check.program("5S" + letter + "6S" + letter + replace + ("L" + letter).repeat(2), "8", "7 5");
        check.program("[8]s" + letter + replace + "l" + letter, "5", "7");
        check.program(replace + "[8]s" + letter + "l" + letter + "x", "7", "8");
    }

    /** "or a register from which one is wanted has none" */
    private static void empty(Check check, String letter) {
        check.refused("", "l" + letter, Check.STATE);
        check.refused("", "L" + letter, Check.STATE);
        check.refused("5", "l" + letter, Check.STATE);
        check.refused("5", "L" + letter, Check.STATE);
        for (String other : LETTERS.split("")) {
            if (!other.equals(letter)) {
                check.refused("5S" + other, "l" + letter, Check.STATE);
                check.refused("5S" + other, "L" + letter, Check.STATE);
            }
        }
        check.refused("5 5", "=" + letter, Check.STATE);
        check.refused("5 4", "<" + letter, Check.STATE);
        check.refused("4 5", ">" + letter, Check.STATE);
    }

    /** "the register's top is put on, and stays there, too", and "the register's top is taken" */
    private static void lastTaken(Check check, String letter, int r) {
        DeskStack desk = check.program("5.0S" + letter + "l" + letter, "3", "50:1");
        check.due("held(" + r + ")", desk.held(r), 1);
        check.program(desk, "L" + letter, 9, "1", "50:1 50:1");
        check.due("held(" + r + ")", desk.held(r), 0);
        check.program(desk, "L" + letter, 9, Check.STATE, "50:1 50:1");
        check.due("held(" + r + ")", desk.held(r), 0);
        check.refused("5S" + letter + "6S" + letter + ("L" + letter).repeat(2), "L" + letter, Check.STATE);
    }

    private static void eachOnItsOwn(Check check) {
        StringBuilder program = new StringBuilder();
        for (String letter : LETTERS.split("")) {
            program.append(filled(letter, LIMIT));
        }
        DeskStack desk = new DeskStack();
        check.program(desk, program.substring(0, 120), Check.FUEL, "80", "");
        check.due("held", Check.held(desk), "10 10 10 10");
        check.program(desk, "LaLbLcLd", Check.FUEL, "4", "9 9 9 9");
        check.due("held", Check.held(desk), "9 9 9 9");
    }

    /** "a letter a to d is wanted and is not there" */
    private static void letters(Check check) {
        String filled = "[]Sa[]Sb[]Sc[]Sd";
        for (String command : new String[] {"s", "l", "S", "L", "<", ">", "="}) {
            for (int c = 1; c <= 127; c++) {
                if (LETTERS.indexOf(c) < 0) {
                    check.refused(filled + "1 1", command + (char) c, Check.ARGUMENT);
                }
            }
            check.refused(filled + "1 1", command + " a", Check.ARGUMENT);
            check.refused(filled + "1 1", command + "\na", Check.ARGUMENT);
        }
        for (int r = 0; r < LETTERS.length(); r++) {
            char letter = LETTERS.charAt(r);
            check.due("held", check.program(filled + "1 1S" + letter, "11", "1").held(r), 2);
            check.due("held", check.program(filled + "1 1s" + letter, "11", "1").held(r), 1);
            check.due("held", check.program(filled + "1 1l" + letter, "11", "1 1 [0]").held(r), 1);
            check.due("held", check.program(filled + "1 1L" + letter, "11", "1 1 [0]").held(r), 0);
            check.due("held", check.program(filled + "1 1=" + letter, "11", "").held(r), 1);
        }
    }

    private static void letterAtTheEnd(Check check) {
        for (String command : new String[] {"s", "l", "S", "L", "<", ">", "="}) {
            check.refused("[]Sa1 1", command, Check.ARGUMENT);
            // The end of the macro is the end of the command, whatever stands behind the macro.
            check.refused("[]Sa1 1[@]xa", command, Check.ARGUMENT);
        }
    }
}

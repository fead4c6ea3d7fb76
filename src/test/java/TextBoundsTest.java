/** Terms, promise 4: written texts, the characters in them, blanks, and characters that begin no command. */
final class TextBoundsTest {
    public static void main(String[] args) {
        Check check = new Check();
        lengths(check);
        pairs(check);
        withoutEnd(check);
        characters(check);
        blanks(check);
        noCommand(check);
        check.end();
    }

    /** "[ text ] : the text between": from none to all that a program of 160 has room for */
    private static void lengths(Check check) {
        check.program("[]", "1", "[0]");
        check.program("[1]", "1", "[1]");
        check.program("[" + "1".repeat(157) + "]", "1", "[157]");
        check.program("[" + "1".repeat(158) + "]", "1", "[158]");
        check.program("[]x5", "3", "5");
        check.program("[ ]x5", "3", "5");
        check.program("[7]x5", "4", "7 5");
    }

    /** "in which [ and ] stand in pairs" */
    private static void pairs(Check check) {
        check.program("[[]]", "1", "[2]");
        check.program("[[][]]", "1", "[4]");
        check.program("[][]", "2", "[0] [0]");
        check.program("[[1]x]x2", "6", "1 2");
        check.program("[".repeat(80) + "]".repeat(80), "1", "[158]");
        check.program("[][[]]5", "3", "[0] [2] 5");
    }

    /** "a text in brackets does not end" */
    private static void withoutEnd(Check check) {
        check.refused("5", "[", Check.ARGUMENT);
        check.refused("5", "[1 2+", Check.ARGUMENT);
        check.refused("5", "[[]", Check.ARGUMENT);
        check.refused("5", "[[1]x", Check.ARGUMENT);
        check.refused("", "[".repeat(160), Check.ARGUMENT);
        check.refused("", "[" + "1".repeat(159), Check.ARGUMENT);
        check.refused("", "[".repeat(80) + "]".repeat(79), Check.ARGUMENT);
        check.refused("5[]", "]", Check.ARGUMENT);
        check.refused("", "]", Check.ARGUMENT);
    }

    /** "a row of characters with codes 1 .. 127": every one may stand in a text, and is no fault before it is run */
    private static void characters(Check check) {
        for (int c = 1; c <= 127; c++) {
            if (c != '[' && c != ']') {
                check.program("[" + (char) c + "]", "1", "[1]");
            }
        }
        check.refused("[@]x", "\u0001", Check.ARGUMENT);
        check.refused("[@]x", "\u007f", Check.ARGUMENT);
    }

    /** "blank and character 10: nothing" */
    private static void blanks(Check check) {
        check.program(" ", "0", "");
        check.program("\n", "0", "");
        check.program(" ".repeat(160), "0", "");
        check.program("\n".repeat(160), "0", "");
        check.program(" ".repeat(159) + "7", "1", "7");
        check.program("7" + " \n".repeat(79), "1", "7");
        check.program(" 1\n2 \n+ ", "3", "3");
        for (char c : new char[] {9, 11, 12, 13, 31, 33}) {
            check.refused("5", Character.toString(c), Check.ARGUMENT);
        }
    }

    /** "no command begins with this character" */
    private static void noCommand(Check check) {
        String commands = "0123456789._[ \n+-*/%v~drDczkKpXslSLx<>=q";
        for (int c = 1; c <= 127; c++) {
            if (commands.indexOf(c) < 0) {
                check.refused("2k5Sa5p", Character.toString((char) c), Check.ARGUMENT);
                check.refused("", Character.toString((char) c), Check.ARGUMENT);
            }
        }
    }
}

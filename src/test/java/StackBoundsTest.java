/** Terms, promise 4: the stack when it is empty, nearly empty, nearly full and full. */
final class StackBoundsTest {
    private static final int LIMIT = 40;

    public static void main(String[] args) {
        Check check = new Check();
        putOnAFullStack(check);
        putBackOnAFullStack(check);
        takenFromAFullStack(check);
        oneItemWanted(check);
        twoItemsWanted(check);
        noItemWanted(check);
        howManyItems(check);
        allTaken(check);
        check.end();
    }

    /** Puts this many items on, each the number 1. */
    private static String ones(int count) {
        return "1" + "d".repeat(count - 1);
    }

    private static String shown(int count) {
        return Check.join(" ", "1", count);
    }

    /** "The stack holds at most 40 items", and "the stack would have more than 40 items" */
    private static void putOnAFullStack(Check check) {
        String[] commands = {" 7", "_.5", "[]", "[78]", "d", "z", "K", "la", "La"};
        for (int i = 0; i < commands.length; i++) {
            String below = "3k5Sa" + ones(LIMIT - 2);
            String[] put = {"7", "-5:1", "[0]", "[2]", "1", String.valueOf(LIMIT - 2), "3", "5", "5"};
            check.program(below + commands[i], String.valueOf(LIMIT + 3), shown(LIMIT - 2) + " " + put[i]);
            put[5] = String.valueOf(LIMIT - 1);
            check.program(below + "d" + commands[i], String.valueOf(LIMIT + 4), shown(LIMIT - 1) + " " + put[i]);
            check.refused(below + "dd", commands[i], Check.UNSUPPORTED);
            check.refused("[" + below + "dd@]x", commands[i], Check.UNSUPPORTED);
        }
    }

    /** A command that takes as many items as it puts on leaves 40, and that is not more than 40. */
    private static void putBackOnAFullStack(Check check) {
        String full = ones(LIMIT);
        check.program(full + "X", "41", shown(LIMIT - 1) + " 0");
        check.program(full + "~", "41", shown(LIMIT - 1) + " -1");
        check.program(full + "v", "41", shown(LIMIT));
        check.program(full + "r", "41", shown(LIMIT));
        check.program(full + "p", "41", shown(LIMIT));
        check.program(full + "x", "41", shown(LIMIT));
    }

    private static void takenFromAFullStack(Check check) {
        String full = ones(LIMIT);
        check.program(full + "+", "41", shown(LIMIT - 2) + " 2");
        check.program(full + "-", "41", shown(LIMIT - 2) + " 0");
        check.program(full + "*", "41", shown(LIMIT - 1));
        check.program(full + "/", "41", shown(LIMIT - 1));
        check.program(full + "%", "41", shown(LIMIT - 2) + " 0");
        check.program(full + "k", "41", shown(LIMIT - 1));
        check.program(full + "D", "41", shown(LIMIT - 1));
        check.program(full + "sa", "41", shown(LIMIT - 1));
        check.program(full + "Sa", "41", shown(LIMIT - 1));
        check.program(full + "<a", "41", shown(LIMIT - 2));
        check.program(full + "c", "41", "");
        check.program(full + "Dd", "42", shown(LIMIT));
        // The macro's text is taken before what it puts on.
        check.program(ones(LIMIT - 1) + "[7]x", "42", shown(LIMIT - 1) + " 7");
        check.program(ones(LIMIT - 1) + "[7 8]x", Check.UNSUPPORTED, shown(LIMIT - 1) + " 7");
        check.program("[7 8]sa" + full + "=a", "45", shown(LIMIT - 2) + " 7 8");
        check.program("[7 8 9]sa" + full + "=a", Check.UNSUPPORTED, shown(LIMIT - 2) + " 7 8");
    }

    /** "the stack has too few items", where one is wanted */
    private static void oneItemWanted(Check check) {
        String[] commands = {"v", "~", "d", "D", "k", "p", "X", "x", "sa", "Sa", "sd", "Sd"};
        String[] ofFour = {"2", "-4", "4 4", "", "", "4", "0", "4", "", "", "", ""};
        for (int i = 0; i < commands.length; i++) {
            check.refused("", commands[i], Check.STATE);
            check.refused("2k3Sa3p2Dc", commands[i], Check.STATE);
            check.program("4" + commands[i], "2", ofFour[i]);
            check.program("9 4" + commands[i], "3", ("9 " + ofFour[i]).trim());
        }
    }

    /** "the stack has too few items", where two are wanted */
    private static void twoItemsWanted(Check check) {
        String[] commands = {"+", "-", "*", "/", "%", "r", "<a", ">a", "=b"};
        String[] ofSevenAndTwo = {"9", "5", "14", "3", "1", "2 7", "8", "", ""};
        for (int i = 0; i < commands.length; i++) {
            check.refused("[8]Sa", commands[i], Check.STATE);
            check.refused("[8]Sa7", commands[i], Check.STATE);
            check.refused("[8]Sa[7]", commands[i], Check.STATE);
            String answer = commands[i].equals("<a") ? "6" : "5";
            check.program("[8]Sa7 2" + commands[i], answer, ofSevenAndTwo[i]);
            check.program("6[8]Sa7 2" + commands[i], answer.equals("6") ? "7" : "6", ("6 " + ofSevenAndTwo[i]).trim());
        }
    }

    private static void noItemWanted(Check check) {
        check.program("c", "1", "");
        check.program("z", "1", "0");
        check.program("K", "1", "0");
        check.program("q", "1", "");
        check.program("1Salac", "4", "");
    }

    /** "z : how many items there were is put on, (n, 0)" */
    private static void howManyItems(Check check) {
        check.program("1z", "2", "1 1");
        check.program("[]z", "2", "[0] 1");
        check.program("z".repeat(LIMIT), "40", "0 1 2 3 4 5 6 7 8 9 10 11 12 13 14 15 16 17 18 19 20 21 22 23 24 25 26 27"
            + " 28 29 30 31 32 33 34 35 36 37 38 39");
        check.refused("z".repeat(LIMIT), "z", Check.UNSUPPORTED);
        check.program("1 2Dz", "4", "1 1");
    }

    /** "c : all items are taken", those of the stack alone */
    private static void allTaken(Check check) {
        DeskStack desk = check.program("3k5Sa" + ones(LIMIT) + "pc", "46", "");
        check.due("state", Check.state(desk), "k3 stack prints 1 held 1 0 0 0");
        check.program(desk, ones(LIMIT), Check.FUEL, "40", shown(LIMIT));
    }
}

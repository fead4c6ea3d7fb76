/** Promise 4: faults, their order, and that a command with a fault changes nothing. */
final class FaultsTest {
    public static void main(String[] args) {
        Check check = new Check();
        noCommand(check);
        letters(check);
        tooFew(check);
        textsForNumbers(check);
        order(check);
        whatWasDoneStays(check);
        check.end();
    }

    private static void noCommand(Check check) {
        String commands = "0123456789._[ \n+-*/%v~drDczkKpXslSLx<>=q";
        for (int c = 1; c <= 127; c++) {
            if (commands.indexOf(c) < 0) {
                check.program("5" + (char) c, Check.ARGUMENT, "5");
            }
        }
    }

    private static void letters(Check check) {
        for (String command : new String[] {"s", "l", "S", "L", "<", ">", "="}) {
            for (String behind : new String[] {"", "e", "`", "A", " a", "1", "\u0001", "\u007f"}) {
                check.program("1 1" + command + behind, Check.ARGUMENT, "1 1");
                check.program(command + behind, Check.ARGUMENT, "");
            }
        }
    }

    private static void tooFew(Check check) {
        for (String command : new String[] {"+", "-", "*", "/", "%", "r", "<a", ">b", "=c"}) {
            check.program(command, Check.STATE, "");
            check.program("1" + command, Check.STATE, "1");
            check.program("[]" + command, Check.STATE, "[0]");
        }
        for (String command : new String[] {"v", "~", "d", "D", "k", "p", "X", "sa", "Sb", "lc", "Ld", "x"}) {
            check.program(command, Check.STATE, "");
        }
        check.program("1lc", Check.STATE, "1");
        check.program("1Ld", Check.STATE, "1");
    }

    private static void textsForNumbers(Check check) {
        for (String command : new String[] {"+", "-", "*", "/", "%", "<a", ">b", "=c"}) {
            check.program("1[]" + command, Check.INDEX, "1 [0]");
            check.program("[]1" + command, Check.INDEX, "[0] 1");
            check.program("[][]" + command, Check.INDEX, "[0] [0]");
        }
        for (String command : new String[] {"v", "~", "k", "X"}) {
            check.program("[3]" + command, Check.INDEX, "[1]");
            check.program("4[3]" + command, Check.INDEX, "4 [1]");
        }
        // A text below the numbers that are wanted is no fault.
        check.program("[]4v", "3", "[0] 2");
        check.program("[]4~", "3", "[0] -4");
        check.program("[]4k", "3", "[0]");
        check.program("[]4X", "3", "[0] 0");
        check.program("[]4 5+", "4", "[0] 9");
        check.program("[]4 5<a", "4", "[0]");
    }

    private static void order(Check check) {
        check.program("[]0/", Check.INDEX, "[0] 0");
        check.program("[]0%", Check.INDEX, "[0] 0");
        check.program("0/", Check.STATE, "0");
        check.program("9k999999999999999999 0%", Check.ARITHMETIC, "999999999999999999 0");
        String full = "1" + "d".repeat(39);
        String forty = Check.join(" ", "1", 40);
        check.program(full + "?", Check.ARGUMENT, forty);
        check.program(full + "[", Check.ARGUMENT, forty);
        check.program(full + "_", Check.ARGUMENT, forty);
        check.program(full + "le", Check.ARGUMENT, forty);
        check.program(full + "la", Check.STATE, forty);
        check.program(full + "La", Check.STATE, forty);
        // The fuel comes before all other faults.
        for (String command : new String[] {"?", "[", "_", "le", "lb", "+", "0/"}) {
            check.program(new DeskStack(), "7" + command.replace("0/", " 0/"), 1, Check.UNSUPPORTED, "7");
        }
    }

    private static void whatWasDoneStays(Check check) {
        DeskStack desk = check.program("2k5p[x]Sc1.5sa3p0/", Check.ARITHMETIC, "5 3 0");
        check.due("cost()", desk.cost(), 11);
        check.due("prints", Check.prints(desk), "5 3");
        check.due("precision()", desk.precision(), 2);
        check.due("held", Check.held(desk), "1 0 1 0");
        check.program(desk, "DD+", 9, Check.STATE, "5");
        check.due("cost()", desk.cost(), 2);
        check.due("prints()", desk.prints(), 0);
        check.program(desk, "lcDla", 9, "3", "5 15:1");
    }
}

/** Promises 4 and 5: the bounds of the fuel, the cost when it is the fuel, and what a refused run leaves. */
final class FuelBoundsTest {
    /** Exactly 500 commands: 2 and 11 times 42 and 36. */
    private static final String FIVE_HUNDRED = "[" + "zD".repeat(20) + "]sa" + "lax".repeat(11) + "zD".repeat(18);

    public static void main(String[] args) {
        Check check = new Check();
        refusedFuel(check);
        refusedFirstRun(check);
        leastFuel(check);
        greatestFuel(check);
        costIsTheFuel(check);
        blanksNeedNoFuel(check);
        beforeAllFaults(check);
        forgottenPrints(check);
        costOfTheLatestRun(check);
        check.end();
    }

    /** "IllegalArgumentException, and nothing changes, if fuel is not 0 .. 500" */
    private static void refusedFuel(Check check) {
        for (int fuel : new int[] {-1, -2, -500, 501, 502, 756, 65536, Integer.MIN_VALUE, Integer.MAX_VALUE}) {
            for (String program : new String[] {"2k5p[7]Sa3[8]", "5p6p?", "", "5p0/"}) {
                DeskStack desk = new DeskStack();
                DeskStack twin = new DeskStack();
                Check.write(desk, program);
                Check.write(twin, program);
                Check.run(desk, Check.FUEL);
                Check.run(twin, Check.FUEL);
                check.due("run(" + fuel + ")", Check.run(desk, fuel), Check.ARGUMENT);
                check.same("run(" + fuel + ") of " + program, desk, twin);
            }
        }
    }

    private static void refusedFirstRun(Check check) {
        DeskStack desk = new DeskStack();
        Check.write(desk, "5p");
        check.due("run(501)", Check.run(desk, 501), Check.ARGUMENT);
        check.due("run(-1)", Check.run(desk, -1), Check.ARGUMENT);
        check.due("cost()", desk.cost(), 0);
        check.due("state", Check.state(desk), "k0 stack prints held 0 0 0 0");
        check.due("run(2)", Check.run(desk, 2), "2");
    }

    private static void leastFuel(Check check) {
        check.program(new DeskStack(), "", 0, "0", "");
        check.program(new DeskStack(), "5", 0, Check.UNSUPPORTED, "");
        check.program(new DeskStack(), "?", 0, Check.UNSUPPORTED, "");
        check.program(new DeskStack(), "", 1, "0", "");
        check.program(new DeskStack(), "5", 1, "1", "5");
        check.program(new DeskStack(), "?", 1, Check.ARGUMENT, "");
        check.program(new DeskStack(), "5d", 1, Check.UNSUPPORTED, "5");
    }

    private static void greatestFuel(Check check) {
        String oneLess = FIVE_HUNDRED.substring(0, FIVE_HUNDRED.length() - 1);
        cost(check, oneLess, 500, "499", "0", 499);
        cost(check, FIVE_HUNDRED, 500, "500", "", 500);
        cost(check, FIVE_HUNDRED, 499, Check.UNSUPPORTED, "0", 499);
        cost(check, FIVE_HUNDRED + "K", 500, Check.UNSUPPORTED, "", 500);
        cost(check, FIVE_HUNDRED + "q", 500, Check.UNSUPPORTED, "", 500);
    }

    private static void cost(Check check, String program, int fuel, String answer, String stack, int cost) {
        DeskStack desk = check.program(new DeskStack(), program, fuel, answer, stack);
        check.due("cost() after run(" + fuel + ") of " + program, desk.cost(), cost);
    }

    /** "UnsupportedOperationException if the cost so far is the fuel" */
    private static void costIsTheFuel(Check check) {
        cost(check, "5 6+", 2, Check.UNSUPPORTED, "5 6", 2);
        cost(check, "5 6+", 3, "3", "11", 3);
        cost(check, "5 6+", 4, "3", "11", 3);
        cost(check, "[7]x", 1, Check.UNSUPPORTED, "[1]", 1);
        cost(check, "[7]x", 2, Check.UNSUPPORTED, "", 2);
        cost(check, "[7]x", 3, "3", "7", 3);
        cost(check, "[]x", 2, "2", "", 2);
        cost(check, "[]xK", 2, Check.UNSUPPORTED, "", 2);
        cost(check, "5q6", 1, Check.UNSUPPORTED, "5", 1);
        cost(check, "5q6", 2, "2", "5", 2);
        cost(check, "[7]sa1d=a5", 5, Check.UNSUPPORTED, "", 5);
        cost(check, "[7]sa1d=a5", 6, Check.UNSUPPORTED, "7", 6);
        cost(check, "[7]sa1d=a5", 7, "7", "7 5", 7);
    }

    /** "each command but blank and character 10 costs 1" */
    private static void blanksNeedNoFuel(Check check) {
        cost(check, " \n", 0, "0", "", 0);
        cost(check, " 5 \n", 1, "1", "5", 1);
        cost(check, "[ \n]x \n", 2, "2", "", 2);
        cost(check, " 5 \n6", 1, Check.UNSUPPORTED, "5", 1);
        cost(check, "5 6 d\n", 3, "3", "5 6 6", 3);
        cost(check, "1.5_.25[1 2 3]Salasbc", 7, "7", "", 7);
    }

    /** "Before all these" */
    private static void beforeAllFaults(Check check) {
        String[] faulty = {"?", "[", "]", ".", "_", "1234567890123456789", "le", "=", "la", "La", "+", "r", "<a", "%"};
        for (String command : faulty) {
            cost(check, "5D" + command, 2, Check.UNSUPPORTED, "", 2);
        }
        cost(check, "[]v", 1, Check.UNSUPPORTED, "[0]", 1);
        cost(check, "[]v", 2, Check.INDEX, "[0]", 1);
        cost(check, "5 0/", 2, Check.UNSUPPORTED, "5 0", 2);
        cost(check, "5 0/", 3, Check.ARITHMETIC, "5 0", 2);
        cost(check, "5D?", 3, Check.ARGUMENT, "", 2);
        cost(check, "5D+", 3, Check.STATE, "", 2);
    }

    /** "what was printed before is forgotten", also by a run that does no command */
    private static void forgottenPrints(Check check) {
        DeskStack desk = check.program("5p", "2", "5");
        check.due("run(0)", Check.run(desk, 0), Check.UNSUPPORTED);
        check.due("state", Check.state(desk), "k0 stack 5 prints held 0 0 0 0");
        check.due("cost()", desk.cost(), 0);
        check.due("run(2)", Check.run(desk, 2), "2");
        check.due("prints()", desk.prints(), 1);
        desk.erase();
        check.due("run(0) of the empty program", Check.run(desk, 0), "0");
        check.due("state", Check.state(desk), "k0 stack 5 5 prints held 0 0 0 0");
    }

    /** "the latest run ... that was not refused for its fuel; 0 if there was none" */
    private static void costOfTheLatestRun(Check check) {
        DeskStack desk = new DeskStack();
        check.due("cost()", desk.cost(), 0);
        check.program(desk, "5 6", 9, "2", "5 6");
        check.due("cost()", desk.cost(), 2);
        desk.write(Check.chars("p"));
        check.due("cost() after write", desk.cost(), 2);
        desk.erase();
        check.due("cost() after erase", desk.cost(), 2);
        desk.reset();
        check.due("cost() after reset", desk.cost(), 2);
        check.due("run(501)", Check.run(desk, 501), Check.ARGUMENT);
        check.due("cost() after a refused run", desk.cost(), 2);
        check.program(desk, "5p6?7", 9, Check.ARGUMENT, "5 6");
        check.due("cost() after a fault", desk.cost(), 3);
        check.program(desk, "?", 9, Check.ARGUMENT, "5 6");
        check.due("cost() after a fault at once", desk.cost(), 0);
    }
}

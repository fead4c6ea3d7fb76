/** Promises 4 and 5: fuel and cost. */
final class FuelTest {
    public static void main(String[] args) {
        Check check = new Check();
        bounds(check);
        usedUp(check);
        costs(check);
        check.end();
    }

    private static void bounds(Check check) {
        DeskStack desk = check.program("3k1p2", "5", "1 2");
        for (int fuel : new int[] {-1, 501, 1000, Integer.MAX_VALUE, Integer.MIN_VALUE}) {
            check.due("run(" + fuel + ")", Check.run(desk, fuel), Check.ARGUMENT);
            check.due("cost()", desk.cost(), 5);
            check.due("prints", Check.prints(desk), "1");
            check.due("stack", Check.stack(desk), "1 2");
            check.due("precision()", desk.precision(), 3);
        }
        check.due("run(500)", Check.run(desk, 500), "5");
        DeskStack fresh = new DeskStack();
        check.due("run(501)", Check.run(fresh, 501), Check.ARGUMENT);
        check.due("cost()", fresh.cost(), 0);
    }

    private static void usedUp(Check check) {
        check.program(new DeskStack(), "1 2+", 3, "3", "3");
        DeskStack desk = check.program(new DeskStack(), "1 2+", 2, Check.UNSUPPORTED, "1 2");
        check.due("cost()", desk.cost(), 2);
        check.program(new DeskStack(), "1", 0, Check.UNSUPPORTED, "");
        check.program(new DeskStack(), "", 0, "0", "");
        // Blanks cost nothing, so they need no fuel.
        check.program(new DeskStack(), " \n ", 0, "0", "");
        check.program(new DeskStack(), "1 \n", 1, "1", "1");
        check.program(new DeskStack(), "1q", 1, Check.UNSUPPORTED, "1");
        check.program(new DeskStack(), "1q", 2, "2", "1");
        check.program(new DeskStack(), "[]x", 2, "2", "");
        check.program(new DeskStack(), "[1]x", 2, Check.UNSUPPORTED, "");
    }

    private static void costs(Check check) {
        DeskStack desk = new DeskStack();
        check.due("cost()", desk.cost(), 0);
        check.program(desk, "1 2\n3", 9, "3", "1 2 3");
        check.due("cost()", desk.cost(), 3);
        check.program(desk, "[1 2]x5x", 9, "6", "1 2 3 1 2 5");
        check.due("cost()", desk.cost(), 6);
        check.program(desk, "c+", 9, Check.STATE, "");
        check.due("cost()", desk.cost(), 1);
        check.program(desk, "?", 9, Check.ARGUMENT, "");
        check.due("cost()", desk.cost(), 0);
        check.program(desk, "1d", 9, "2", "1 1");
        desk.reset();
        check.due("cost() after reset", desk.cost(), 2);
        desk.erase();
        check.due("cost() after erase", desk.cost(), 2);
        check.due("run of the empty program", Check.run(desk, 9), "0");
        check.due("cost()", desk.cost(), 0);
    }
}

/** Promises 6, 7 and 8: prints, printed and places. */
final class PrintsTest {
    public static void main(String[] args) {
        Check check = new Check();
        items(check);
        eachRunAnew(check);
        limit(check);
        check.end();
    }

    private static void items(Check check) {
        DeskStack desk = check.program("1.50p[abc]p_7p[]p", "8", "150:2 [3] -7 [0]");
        check.due("prints()", desk.prints(), 4);
        long[] values = {150, 3, -7, 0, 0};
        int[] places = {2, -1, 0, -1, -2};
        for (int i = 0; i < values.length; i++) {
            check.due("printed(" + i + ")", desk.printed(i), values[i]);
            check.due("places(" + i + ")", desk.places(i), places[i]);
        }
        for (int i : new int[] {-1, 5, 40, Integer.MIN_VALUE, Integer.MAX_VALUE}) {
            check.due("printed(" + i + ")", desk.printed(i), 0);
            check.due("places(" + i + ")", desk.places(i), -2);
        }
        // What is printed stays printed when the item is taken.
        desk = check.program("5p1+pD", "6", "");
        check.due("prints", Check.prints(desk), "5 6");
    }

    private static void eachRunAnew(Check check) {
        DeskStack desk = check.program("1p2p", "4", "1 2");
        desk.run(9);
        check.due("prints", Check.prints(desk), "1 2");
        check.program(desk, "3p?", 9, Check.ARGUMENT, "1 2 1 2 3");
        check.due("prints", Check.prints(desk), "3");
        check.due("run(-1)", Check.run(desk, -1), Check.ARGUMENT);
        check.due("prints", Check.prints(desk), "3");
        check.program(desk, "c", 9, "1", "");
        check.due("prints()", desk.prints(), 0);
        check.due("printed(0)", desk.printed(0), 0);
        check.due("places(0)", desk.places(0), -2);
    }

    private static void limit(Check check) {
        DeskStack desk = check.program("0" + "p1+".repeat(39) + "p", "119", "39");
        check.due("prints()", desk.prints(), 40);
        check.due("printed(39)", desk.printed(39), 39);
        desk = check.program("0" + "p1+".repeat(45) + "p", "137", "45");
        check.due("prints()", desk.prints(), 40);
        check.due("printed(0)", desk.printed(0), 0);
        check.due("printed(39)", desk.printed(39), 39);
        check.due("printed(40)", desk.printed(40), 0);
        check.due("places(39)", desk.places(39), 0);
        check.due("places(40)", desk.places(40), -2);
    }
}

/** Promises 9 to 14: depth, item, scale, held, precision and reset. */
final class StateTest {
    public static void main(String[] args) {
        Check check = new Check();
        items(check);
        held(check);
        reset(check);
        check.end();
    }

    private static void items(Check check) {
        DeskStack desk = check.program("_1.25[abcd]9", "3", "-125:2 [4] 9");
        check.due("depth()", desk.depth(), 3);
        long[] values = {9, 4, -125, 0};
        int[] scales = {0, -1, 2, -2};
        for (int i = 0; i < values.length; i++) {
            check.due("item(" + i + ")", desk.item(i), values[i]);
            check.due("scale(" + i + ")", desk.scale(i), scales[i]);
        }
        for (int i : new int[] {-1, 40, 41, Integer.MIN_VALUE, Integer.MAX_VALUE}) {
            check.due("item(" + i + ")", desk.item(i), 0);
            check.due("scale(" + i + ")", desk.scale(i), -2);
        }
        check.program(desk, "DD", 9, "2", "-125:2");
        check.due("item(1)", desk.item(1), 0);
        check.due("scale(1)", desk.scale(1), -2);
    }

    private static void held(Check check) {
        DeskStack desk = check.program("1Sa1Sb1Sb1Sc1Sc1Sc1Sd1Sd1Sd1Sd", "20", "");
        for (int r = 0; r < 4; r++) {
            check.due("held(" + r + ")", desk.held(r), r + 1);
        }
        for (int r : new int[] {-1, 4, 97, Integer.MIN_VALUE, Integer.MAX_VALUE}) {
            check.due("held(" + r + ")", desk.held(r), -1);
        }
    }

    private static void reset(Check check) {
        DeskStack desk = check.program("2k1Sa2Sb3Sc4Sd[a]p5", "13", "[1] 5");
        check.due("precision()", desk.precision(), 2);
        desk.reset();
        check.due("depth()", desk.depth(), 0);
        check.due("item(0)", desk.item(0), 0);
        check.due("scale(0)", desk.scale(0), -2);
        check.due("held", Check.held(desk), "0 0 0 0");
        check.due("precision()", desk.precision(), 0);
        check.due("prints()", desk.prints(), 0);
        check.due("printed(0)", desk.printed(0), 0);
        check.due("places(0)", desk.places(0), -2);
        check.due("run of the program that stays", Check.run(desk, 13), "13");
        check.due("stack", Check.stack(desk), "[1] 5");
        check.due("precision()", desk.precision(), 2);
        check.due("erase()", desk.erase(), 19);
        desk.reset();
        check.program(desk, "La", 9, Check.STATE, "");
    }
}

/** Promise 4: the commands that move items about, on the stack and in registers. */
final class StackCommandsTest {
    private static final String FORTY = Check.join(" ", "1", 40);
    private static final String FILL = "1dddddddddddddddddddddddddddddddddddddddd".substring(0, 40);

    public static void main(String[] args) {
        Check check = new Check();
        stack(check);
        fullStack(check);
        precision(check);
        registers(check);
        fullRegister(check);
        check.end();
    }

    private static void stack(Check check) {
        check.program("1.5d", "2", "15:1 15:1");
        check.program("[ab]d", "2", "[2] [2]");
        check.program("1 2 3r", "4", "1 3 2");
        check.program("[ab]2.5rx", Check.ARGUMENT, "25:1");
        check.program("1[ab]r", "3", "[2] 1");
        check.program("[1]2.50r", "3", "250:2 [1]");
        check.program("1 2D", "3", "1");
        check.program("1[2]D", "3", "1");
        check.program("1 2[3]c", "4", "");
        check.program("c", "1", "");
        check.program("z", "1", "0");
        check.program("5[6]z", "3", "5 [1] 2");
        check.program("zzz", "3", "0 1 2");
        check.program("1.250X", "2", "3");
        check.program("7X", "2", "0");
        check.program("1 .123456789X", "3", "1 9");
    }

    private static void fullStack(Check check) {
        check.program(FILL, "40", FORTY);
        for (String command : new String[] {"d", "z", "K", "7", "[7]"}) {
            DeskStack desk = check.program(FILL + command, Check.UNSUPPORTED, FORTY);
            check.due("cost()", desk.cost(), 40);
        }
        check.program(FILL + "~~", "42", FORTY);
        check.program(FILL + "X", "41", FORTY.substring(0, FORTY.length() - 1) + "0");
        check.program(FILL + "r", "41", FORTY);
        check.program(FILL + "p", "41", FORTY);
        check.program(FILL + "DzD7", "44", FORTY.substring(0, FORTY.length() - 1) + "7");
        DeskStack desk = check.program("5Sa" + FILL + "la", Check.UNSUPPORTED, FORTY);
        check.program(desk, "La", 9, Check.UNSUPPORTED, FORTY);
        check.due("held(0)", desk.held(0), 1);
        check.program(desk, "DLa", 9, "2", FORTY.substring(0, FORTY.length() - 1) + "5");
        check.due("held(0)", desk.held(0), 0);
    }

    private static void precision(Check check) {
        check.due("precision()", check.program("5k", "2", "").precision(), 5);
        check.due("precision()", check.program("9.000k", "2", "").precision(), 9);
        check.due("precision()", check.program("5k0.0k", "4", "").precision(), 0);
        check.program("K3kK", "4", "0 3");
        for (String wrong : new String[] {"10", "_1", "1.5", ".5", "_.5", "9.5", "9.000000001", "999999999999999999"}) {
            DeskStack desk = new DeskStack();
            check.program(desk, "4k", 9, "2", "");
            check.due("run of k", Check.run(written(desk, "c" + wrong + "k"), 9), Check.ARITHMETIC);
            check.due("depth()", desk.depth(), 1);
            check.due("precision()", desk.precision(), 4);
        }
    }

    private static DeskStack written(DeskStack desk, String program) {
        desk.erase();
        Check.write(desk, program);
        return desk;
    }

    private static void registers(Check check) {
        check.due("held", Check.held(check.program("1sa", "2", "")), "1 0 0 0");
        check.due("held", Check.held(check.program("1sb2sb", "4", "")), "0 1 0 0");
        check.due("held", Check.held(check.program("1Sc2Sc", "4", "")), "0 0 2 0");
        check.due("held", Check.held(check.program("1Sd2Sd3sdLdLd", "8", "3 1")), "0 0 0 0");
        check.due("held", Check.held(check.program("1.5sala", "3", "15:1")), "1 0 0 0");
        check.due("held", Check.held(check.program("[ab]Sbc1lblbLb", "7", "1 [2] [2] [2]")), "0 0 0 0");
        check.program("1sa2sb3sc4sdldlclbla", "12", "4 3 2 1");
        check.program("1sa[]scla", "5", "1");
    }

    private static void fullRegister(Check check) {
        DeskStack desk = check.program("5Sa".repeat(10), "20", "");
        check.program(desk, "6Sa", 9, Check.UNSUPPORTED, "6");
        check.due("held(0)", desk.held(0), 10);
        check.due("cost()", desk.cost(), 1);
        check.program(desk, "sala", 9, "2", "6");
        check.due("held(0)", desk.held(0), 10);
        check.program(desk, "LaD7Sa", 9, "4", "6");
        check.due("held(0)", desk.held(0), 10);
        check.program(desk, "La", 9, "1", "6 7");
    }
}

/** What the tests share: calls with the answers that are due, and a count of the wrong ones. */
final class Check {
    static final int FUEL = 500;
    static final String ARGUMENT = "throws.IllegalArgumentException";
    static final String STATE = "throws.IllegalStateException";
    static final String INDEX = "throws.IndexOutOfBoundsException";
    static final String ARITHMETIC = "throws.ArithmeticException";
    static final String UNSUPPORTED = "throws.UnsupportedOperationException";

    private int calls = 0;
    private int wrong = 0;

    void due(String call, long got, long want) {
        due(call, Long.toString(got), Long.toString(want));
    }

    void due(String call, String got, String want) {
        calls++;
        if (!got.equals(want)) {
            wrong++;
            System.out.println(call + " answered " + got + ", due is " + want);
        }
    }

    /** A new object runs the program; what run answers and the stack afterwards are looked at. */
    DeskStack program(String program, String answer, String stack) {
        return program(new DeskStack(), program, FUEL, answer, stack);
    }

    /** The object's program becomes this one and is run. */
    DeskStack program(DeskStack desk, String program, int fuel, String answer, String stack) {
        desk.erase();
        write(desk, program);
        String call = "run(" + fuel + ") of " + program.replace("\n", "\\n");
        due(call, run(desk, fuel), answer);
        due("the stack after " + call, stack(desk), stack);
        return desk;
    }

    /**
     * A command with a fault changes nothing and its cost is not counted: the object is then as one
     * whose run ended there with q, but for what q costs. The command may stand in a program at @.
     */
    void refused(String before, String command, String fault) {
        String program = before.indexOf('@') < 0 ? before + "@" : before;
        DeskStack ended = new DeskStack();
        write(ended, program.replace("@", "q"));
        int cost = ended.run(FUEL) - 1;
        DeskStack desk = new DeskStack();
        String with = program.replace("@", command);
        write(desk, with);
        String call = "run of " + with.replace("\n", "\\n");
        due(call, run(desk, FUEL), fault);
        due("cost() after " + call, desk.cost(), cost);
        due("the state after " + call, state(desk), state(ended));
        due("erase() after " + call, desk.erase(), with.length());
        due("what lies within after " + call, within(desk), within(ended));
    }

    /** A call that is refused changes nothing: the object is as its twin, which did not get the call. */
    void same(String call, DeskStack desk, DeskStack twin) {
        due("cost() after " + call, desk.cost(), twin.cost());
        due("the state after " + call, state(desk), state(twin));
        due("run of the program after " + call, run(desk, FUEL), run(twin, FUEL));
        due("the state after " + call + " and run", state(desk), state(twin));
        due("erase() after " + call, desk.erase(), twin.erase());
        due("what lies within after " + call, within(desk), within(twin));
    }

    void end() {
        System.out.println(wrong == 0 ? calls + " answers are as due" : wrong + " of " + calls + " answers are not as due");
        if (wrong != 0) {
            System.exit(1);
        }
    }

    static void write(DeskStack desk, String text) {
        for (int i = 0; i < text.length(); i += 8) {
            String part = text.substring(i, Math.min(text.length(), i + 8));
            if (desk.write(chars(part)) != part.length()) {
                throw new IllegalStateException("not written: " + text);
            }
        }
    }

    static long chars(String part) {
        long chars = 0;
        for (int i = 0; i < part.length(); i++) {
            chars |= (long) part.charAt(i) << (8 * i);
        }
        return chars;
    }

    static String run(DeskStack desk, int fuel) {
        try {
            return Integer.toString(desk.run(fuel));
        } catch (RuntimeException e) {
            return "throws." + e.getClass().getSimpleName();
        }
    }

    /** The items from the bottom to the top: m, m:places, or [number of characters]. */
    static String stack(DeskStack desk) {
        StringBuilder items = new StringBuilder();
        for (int i = desk.depth() - 1; i >= 0; i--) {
            items.append(item(desk.item(i), desk.scale(i))).append(i > 0 ? " " : "");
        }
        return items.toString();
    }

    /** The items printed, the first one first. */
    static String prints(DeskStack desk) {
        StringBuilder items = new StringBuilder();
        for (int i = 0; i < desk.prints(); i++) {
            items.append(i > 0 ? " " : "").append(item(desk.printed(i), desk.places(i)));
        }
        return items.toString();
    }

    static String item(long value, int places) {
        return places == -1 ? "[" + value + "]" : places == 0 ? Long.toString(value) : value + ":" + places;
    }

    static String held(DeskStack desk) {
        return desk.held(0) + " " + desk.held(1) + " " + desk.held(2) + " " + desk.held(3);
    }

    /** All that the calls show but the cost and the program. */
    static String state(DeskStack desk) {
        String stack = stack(desk);
        String prints = prints(desk);
        return "k" + desk.precision() + " stack" + (stack.isEmpty() ? "" : " " + stack)
            + " prints" + (prints.isEmpty() ? "" : " " + prints) + " held " + held(desk);
    }

    /** What a text on top does and what the registers hold; the object's items are gone afterwards. */
    static String within(DeskStack desk) {
        StringBuilder found = new StringBuilder(shownBy(desk, "x"));
        for (int r = 0; r < 4; r++) {
            String unload = "L" + (char) ('a' + r);
            found.append(shownBy(desk, "c" + unload.repeat(desk.held(r)))).append(shownBy(desk, "x"));
        }
        return found.toString();
    }

    private static String shownBy(DeskStack desk, String program) {
        desk.erase();
        write(desk, program);
        return run(desk, FUEL) + ": " + stack(desk) + "; ";
    }

    static String join(String between, String text, int times) {
        return (text + between).repeat(times - 1) + text;
    }
}

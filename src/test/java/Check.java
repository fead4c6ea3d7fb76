/** What the tests share: calls with the answers that are due, and a count of the wrong ones. */
final class Check {
    static final int FUEL = 500;
    static final String ARGUMENT = "throws.IllegalArgumentException";
    static final String STATE = "throws.IllegalStateException";
    static final String INDEX = "throws.IndexOutOfBoundsException";
    static final String ARITHMETIC = "throws.ArithmeticException";
    static final String UNSUPPORTED = "throws.UnsupportedOperationException";

    private int calls = 0;
    private int wrong = 0;

    void due(String call, long got, long want) {
        due(call, Long.toString(got), Long.toString(want));
    }

    void due(String call, String got, String want) {
        calls++;
        if (!got.equals(want)) {
            wrong++;
            System.out.println(call + " answered " + got + ", due is " + want);
        }
    }

    /** A new object runs the program; what run answers and the stack afterwards are looked at. */
    DeskStack program(String program, String answer, String stack) {
        return program(new DeskStack(), program, FUEL, answer, stack);
    }

    /** The object's program becomes this one and is run. */
    DeskStack program(DeskStack desk, String program, int fuel, String answer, String stack) {
        desk.erase();
        write(desk, program);
        String call = "run(" + fuel + ") of " + program.replace("\n", "\\n");
        due(call, run(desk, fuel), answer);
        due("the stack after " + call, stack(desk), stack);
        return desk;
    }

    void end() {
        System.out.println(wrong == 0 ? calls + " answers are as due" : wrong + " of " + calls + " answers are not as due");
        if (wrong != 0) {
            System.exit(1);
        }
    }

    static void write(DeskStack desk, String text) {
        for (int i = 0; i < text.length(); i += 8) {
            String part = text.substring(i, Math.min(text.length(), i + 8));
            if (desk.write(chars(part)) != part.length()) {
                throw new IllegalStateException("not written: " + text);
            }
        }
    }

    static long chars(String part) {
        long chars = 0;
        for (int i = 0; i < part.length(); i++) {
            chars |= (long) part.charAt(i) << (8 * i);
        }
        return chars;
    }

    static String run(DeskStack desk, int fuel) {
        try {
            return Integer.toString(desk.run(fuel));
        } catch (RuntimeException e) {
            return "throws." + e.getClass().getSimpleName();
        }
    }

    /** The items from the bottom to the top: m, m:places, or [number of characters]. */
    static String stack(DeskStack desk) {
        StringBuilder items = new StringBuilder();
        for (int i = desk.depth() - 1; i >= 0; i--) {
            items.append(item(desk.item(i), desk.scale(i))).append(i > 0 ? " " : "");
        }
        return items.toString();
    }

    /** The items printed, the first one first. */
    static String prints(DeskStack desk) {
        StringBuilder items = new StringBuilder();
        for (int i = 0; i < desk.prints(); i++) {
            items.append(i > 0 ? " " : "").append(item(desk.printed(i), desk.places(i)));
        }
        return items.toString();
    }

    static String item(long value, int places) {
        return places == -1 ? "[" + value + "]" : places == 0 ? Long.toString(value) : value + ":" + places;
    }

    static String held(DeskStack desk) {
        return desk.held(0) + " " + desk.held(1) + " " + desk.held(2) + " " + desk.held(3);
    }

    static String join(String between, String text, int times) {
        return (text + between).repeat(times - 1) + text;
    }
}

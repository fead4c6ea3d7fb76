import java.util.Random;

/** Promises 1 to 14: rows of calls with programs put together at random, against the model. */
final class ModelTest {
    private static final int OBJECTS = 20000;
    /** An object promises nothing after its 512th call; a program and a look at the state need this many at most. */
    private static final int CALLS = 512;
    private static final int CALLS_OF_A_STEP = 240;
    private static final String[] COMMANDS = {
        "+", "-", "*", "/", "%", "v", "~", "d", "r", "D", "c", "z", "k", "K", "p", "X", "x", "q", "d", "r", "p", "z"};
    private static final String[] PLACES = {"", ".", ".0", ".5", ".25", ".125", ".000000001", ".123456789"};
    private static final String[] WHOLES = {
        "0", "1", "2", "3", "7", "9", "10", "12", "99", "1000", "999999999", "1000000000", "99999999999999999",
        "100000000000000000", "999999999999999999"};
    /** What brings the stack, a register or the prints near their limits. */
    private static final String[] FILLS = {
        "1" + "d".repeat(38), "[7]" + "d".repeat(39), "5Sa".repeat(9), "[7]Sb".repeat(10), "1" + "p".repeat(39),
        "1[ddddd]sc" + "lcx".repeat(7)};
    private static final int[] FUELS = {0, 1, 2, 5, 10, 50, 499, 500, 500, 500, 500, -1, 501};

    private final Random random;
    private final Check check;
    private final DeskStack desk = new DeskStack();
    private final Model model = new Model();
    private final StringBuilder calls = new StringBuilder();
    private int used = 0;

    private ModelTest(long seed, Check check) {
        random = new Random(seed);
        this.check = check;
    }

    public static void main(String[] args) {
        Check check = new Check();
        for (int seed = 0; seed < OBJECTS; seed++) {
            ModelTest test = new ModelTest(seed, check);
            while (test.used + CALLS_OF_A_STEP <= CALLS) {
                test.step();
            }
        }
        check.end();
    }

    private void step() {
        int kind = random.nextInt(20);
        if (kind == 0) {
            calls.append(" reset");
            used++;
            desk.reset();
            model.reset();
        } else if (kind == 1) {
            run(FUELS[random.nextInt(FUELS.length)]);
        } else if (kind == 2) {
            due("erase", desk.erase(), model.erase());
        } else if (kind == 3) {
            write(text(1 + random.nextInt(8)));
        } else {
            due("erase", desk.erase(), model.erase());
            String fill = random.nextInt(4) == 0 ? FILLS[random.nextInt(FILLS.length)] : "";
            String program = fill + program(random.nextInt(4));
            for (int i = 0; i < program.length() && i <= 160; i += 8) {
                write(program.substring(i, Math.min(i + 8, program.length())));
            }
            run(FUELS[random.nextInt(FUELS.length)]);
        }
        check.due("the state after" + calls, state(), model.state());
        used += 10 + 2 * desk.depth() + 3 * desk.prints();
    }

    private void due(String call, long got, long want) {
        calls.append(' ').append(call);
        used++;
        check.due(calls.toString(), got, want);
    }

    private void run(int fuel) {
        calls.append(" run(").append(fuel).append(')');
        used++;
        check.due(calls.toString(), Check.run(desk, fuel), model.run(fuel));
    }

    private void write(String part) {
        due("write:" + part.replace("\n", "\\n") + ":", desk.write(Check.chars(part)), model.write(part));
    }

    private String state() {
        return desk.cost() + " " + Check.state(desk);
    }

    private String text(int length) {
        StringBuilder text = new StringBuilder();
        for (int i = 0; i < length; i++) {
            text.append((char) (1 + random.nextInt(random.nextInt(9) == 0 ? 255 : 127)));
        }
        return text.toString();
    }

    private String program(int depth) {
        StringBuilder program = new StringBuilder();
        int commands = 1 + random.nextInt(depth == 0 ? 40 : 12);
        for (int i = 0; i < commands; i++) {
            program.append(command(depth));
            if (random.nextInt(12) == 0) {
                program.append(random.nextBoolean() ? " " : "\n");
            }
        }
        return program.toString();
    }

    private String command(int depth) {
        int kind = random.nextInt(100);
        if (kind < 34) {
            return " " + number();
        }
        if (kind < 62) {
            return COMMANDS[random.nextInt(COMMANDS.length)];
        }
        if (kind < 80) {
            return "slSLlL<>=".charAt(random.nextInt(9)) + letter();
        }
        if (kind < 98) {
            return depth == 0 ? number() : "[" + program(depth - 1) + "]" + use();
        }
        return text(1);
    }

    private String use() {
        String[] uses = {"", "x", "x", "dx", "sa", "Sb", "sala x", "salax1", "sc1d=c", "sd1d=d2"};
        return uses[random.nextInt(uses.length)];
    }

    private String letter() {
        return "abcdabcdabcdabcdabcdabcdabcdabcd e1".substring(random.nextInt(35)).substring(0, 1);
    }

    private String number() {
        if (random.nextInt(3) == 0) {
            return Integer.toString(random.nextInt(10));
        }
        if (random.nextInt(12) == 0) {
            return random.nextInt(10) + "k";
        }
        return (random.nextInt(4) == 0 ? "_" : "") + WHOLES[random.nextInt(WHOLES.length)]
            + PLACES[random.nextInt(PLACES.length)];
    }
}

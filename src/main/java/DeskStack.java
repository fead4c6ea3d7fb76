/** A calculator with a stack, four registers and macros, on decimal numbers. */
public final class DeskStack {
    private static final int STACK_LIMIT = 40;
    private static final int REGISTER_COUNT = 4;
    private static final int REGISTER_LIMIT = 10;
    private static final int PRINT_LIMIT = 40;
    private static final int PROGRAM_LIMIT = 160;
    private static final int CHARS_PER_WRITE = 8;
    private static final int GREATEST_CHAR = 127;
    private static final int UNDER_WAY_LIMIT = 12;
    private static final int FUEL_LIMIT = 500;
    private static final int DIGIT_LIMIT = 18;
    private static final int PLACES_LIMIT = 9;

    /** Far above the need: each step does a command or leaves a text that a command entered. */
    private static final int STEP_LIMIT = 1000000;

    /** No text holds character 0, so it can stand for the end of one. */
    private static final int END_OF_TEXT = 0;

    private static final int PLACES_OF_TEXT = -1;
    private static final int PLACES_OF_NONE = -2;

    private final Shelf stack;
    private final Shelf[] registers;
    private final Shelf printer;
    private final Nest texts;
    private Row program;
    private int keptPlaces;
    private int commandsDone;

    public DeskStack() {
        stack = new Shelf(STACK_LIMIT);
        registers = new Shelf[REGISTER_COUNT];
        for (int r = 0; r < registers.length; r++) {
            registers[r] = new Shelf(REGISTER_LIMIT);
        }
        printer = new Shelf(PRINT_LIMIT);
        texts = new Nest();
        program = new Row();
        keptPlaces = 0;
        commandsDone = 0;
    }

    public int write(long chars) {
        int count = 0;
        while (count < CHARS_PER_WRITE && charOf(chars, count) != END_OF_TEXT) {
            if (charOf(chars, count) > GREATEST_CHAR) {
                return -1;
            }
            count++;
        }
        if (program.size + count > PROGRAM_LIMIT) {
            return -1;
        }
        for (int i = 0; i < count; i++) {
            program.append(charOf(chars, i));
        }
        return count;
    }

    public int erase() {
        int had = program.size;
        // Texts on the stack and in registers are parts of the old row, so it is never written again.
        if (had > 0) {
            program = new Row();
        }
        return had;
    }

    public int run(int fuel) throws IllegalArgumentException, IllegalStateException,
            IndexOutOfBoundsException, ArithmeticException, UnsupportedOperationException {
        if (fuel < 0 || fuel > FUEL_LIMIT) {
            throw new IllegalArgumentException("the fuel is not 0 .. 500");
        }
        printer.clear();
        commandsDone = 0;
        texts.leaveAll();
        texts.enter(program, 0, program.size);
        for (int step = 0; step < STEP_LIMIT && texts.count > 0; step++) {
            texts.skipBlanks();
            if (texts.look() == END_OF_TEXT) {
                texts.leave();
            } else if (commandsDone >= fuel) {
                throw new UnsupportedOperationException("the fuel is used up");
            } else {
                doCommand();
                commandsDone++;
            }
        }
        return commandsDone;
    }

    public int cost() {
        return commandsDone;
    }

    public int prints() {
        return printer.count;
    }

    public long printed(int i) {
        return printer.valueAt(i);
    }

    public int places(int i) {
        return printer.placesAt(i);
    }

    public int depth() {
        return stack.count;
    }

    public long item(int i) {
        return stack.valueAt(stack.slotBelowTop(i));
    }

    public int scale(int i) {
        return stack.placesAt(stack.slotBelowTop(i));
    }

    public int held(int r) {
        Shelf register = registerNumbered(r);
        return register == null ? -1 : register.count;
    }

    public int precision() {
        return keptPlaces;
    }

    public void reset() {
        stack.clear();
        for (int r = 0; r < REGISTER_COUNT; r++) {
            Shelf register = registerNumbered(r);
            if (register != null) {
                register.clear();
            }
        }
        printer.clear();
        keptPlaces = 0;
    }

    private static int charOf(long chars, int i) {
        return (int) (chars >>> (8 * i)) & 255;
    }

    private Shelf registerNumbered(int r) {
        return r < 0 || r >= registers.length ? null : registers[r];
    }

    /**
     * Does the command that begins at the place reached in the innermost text.
     * A command with a fault throws before it has changed an item, a register or K.
     */
    private void doCommand() {
        int c = texts.look();
        if (beginsNumber(c)) {
            putWrittenNumber();
            return;
        }
        texts.pass();
        switch (c) {
            case '[':
                putWrittenText();
                break;
            case '+':
            case '-':
            case '*':
            case '/':
            case '%':
                calculate(c);
                break;
            case 'v':
            case '~':
            case 'k':
            case 'X':
                changeNumber(c);
                break;
            case 's':
            case 'l':
            case 'S':
            case 'L':
                moveToOrFromRegister(c);
                break;
            case '<':
            case '>':
            case '=':
                runIfOrdered(c);
                break;
            case 'x':
                runTop();
                break;
            case 'q':
                texts.leaveAll();
                break;
            default:
                arrangeStack(c);
                break;
        }
    }

    private static boolean isDigit(int c) {
        return c >= '0' && c <= '9';
    }

    private static boolean beginsNumber(int c) {
        return isDigit(c) || c == '.' || c == '_';
    }

    private void putWrittenNumber() {
        boolean negative = texts.look() == '_';
        if (negative) {
            texts.pass();
        }
        long m = 0;
        int digits = 0;
        int places = 0;
        boolean pointSeen = false;
        for (int i = 0; i < PROGRAM_LIMIT; i++) {
            int c = texts.look();
            if (isDigit(c)) {
                digits++;
                places += pointSeen ? 1 : 0;
                // Digits beyond the limit are a fault, but must not overflow before it is told.
                m = digits > DIGIT_LIMIT ? m : m * 10 + (c - '0');
            } else if (c == '.' && !pointSeen) {
                pointSeen = true;
            } else {
                break;
            }
            texts.pass();
        }
        if (digits == 0 || digits > DIGIT_LIMIT || places > PLACES_LIMIT) {
            throw new IllegalArgumentException("a number without a digit or with too many");
        }
        stack.putNumber(negative ? -m : m, places);
    }

    private void putWrittenText() {
        Row row = texts.innermostRow();
        int start = texts.position();
        int open = 1;
        for (int i = 0; i < PROGRAM_LIMIT && open > 0; i++) {
            int c = texts.look();
            if (c == END_OF_TEXT) {
                break;
            }
            if (c == '[') {
                open++;
            } else if (c == ']') {
                open--;
            }
            texts.pass();
        }
        if (open > 0 || row == null) {
            throw new IllegalArgumentException("a text in brackets does not end");
        }
        stack.putText(row, start, texts.position() - 1 - start);
    }

    private void needItems(int count) {
        if (stack.count < count) {
            throw new IllegalStateException("the stack has too few items");
        }
    }

    private void needNumbers(int count) {
        needItems(count);
        for (int i = 0; i < count; i++) {
            if (stack.rowAt(stack.slotBelowTop(i)) != null) {
                throw new IndexOutOfBoundsException("a number is wanted and the item is a text");
            }
        }
    }

    private void calculate(int c) {
        needNumbers(2);
        long x = stack.valueAt(stack.slotBelowTop(1));
        int xPlaces = stack.placesAt(stack.slotBelowTop(1));
        long y = stack.valueAt(stack.slotBelowTop(0));
        int yPlaces = stack.placesAt(stack.slotBelowTop(0));
        int greater = Math.max(xPlaces, yPlaces);
        long result;
        int places;
        switch (c) {
            case '+':
                places = greater;
                result = Decimal.sum(x, xPlaces, y, yPlaces);
                break;
            case '-':
                places = greater;
                result = Decimal.sum(x, xPlaces, -y, yPlaces);
                break;
            case '*':
                places = Math.min(xPlaces + yPlaces, Math.max(keptPlaces, greater));
                result = Decimal.cutOff(Decimal.times(x, y), xPlaces + yPlaces - places);
                break;
            case '/':
                places = keptPlaces;
                result = Decimal.quotient(x, xPlaces, y, yPlaces, keptPlaces);
                break;
            default:
                places = Math.max(keptPlaces + yPlaces, xPlaces);
                result = Decimal.remainder(x, xPlaces, y, yPlaces, keptPlaces);
                break;
        }
        stack.drop(2);
        stack.putNumber(result, places);
    }

    private void changeNumber(int c) {
        needNumbers(1);
        long y = stack.valueAt(stack.slotBelowTop(0));
        int yPlaces = stack.placesAt(stack.slotBelowTop(0));
        if (c == 'k') {
            keptPlaces = Decimal.asPlaces(y, yPlaces);
            stack.drop(1);
        } else if (c == 'v') {
            int places = Math.max(keptPlaces, yPlaces);
            long root = Decimal.root(y, yPlaces, places);
            stack.drop(1);
            stack.putNumber(root, places);
        } else if (c == '~') {
            stack.drop(1);
            stack.putNumber(-y, yPlaces);
        } else {
            stack.drop(1);
            stack.putNumber(yPlaces, 0);
        }
    }

    private void arrangeStack(int c) {
        switch (c) {
            case 'd':
                needItems(1);
                stack.putTopOf(stack);
                break;
            case 'r':
                needItems(2);
                stack.swapTopTwo();
                break;
            case 'D':
                needItems(1);
                stack.drop(1);
                break;
            case 'c':
                stack.clear();
                break;
            case 'z':
                stack.putNumber(stack.count, 0);
                break;
            case 'K':
                stack.putNumber(keptPlaces, 0);
                break;
            case 'p':
                needItems(1);
                if (!printer.isFull()) {
                    printer.putTopOf(stack);
                }
                break;
            default:
                throw new IllegalArgumentException("no command begins with this character");
        }
    }

    private Shelf registerOfLetter() {
        Shelf register = registerNumbered(texts.look() - 'a');
        if (register == null) {
            throw new IllegalArgumentException("a letter a to d is wanted and is not there");
        }
        texts.pass();
        return register;
    }

    private static void needHeld(Shelf register) {
        if (register.count < 1) {
            throw new IllegalStateException("the register has no item");
        }
    }

    private void moveToOrFromRegister(int c) {
        Shelf register = registerOfLetter();
        if (c == 's') {
            needItems(1);
            register.drop(1);
            register.putTopOf(stack);
            stack.drop(1);
        } else if (c == 'S') {
            needItems(1);
            register.putTopOf(stack);
            stack.drop(1);
        } else {
            needHeld(register);
            stack.putTopOf(register);
            register.drop(c == 'L' ? 1 : 0);
        }
    }

    private void runTop() {
        needItems(1);
        int top = stack.slotBelowTop(0);
        Row row = stack.rowAt(top);
        if (row != null) {
            texts.enterMacro(row, stack.startAt(top), (int) stack.valueAt(top));
            stack.drop(1);
        }
    }

    private void runIfOrdered(int c) {
        Shelf register = registerOfLetter();
        needNumbers(2);
        int x = stack.slotBelowTop(1);
        int y = stack.slotBelowTop(0);
        int order = Decimal.order(stack.valueAt(y), stack.placesAt(y), stack.valueAt(x), stack.placesAt(x));
        boolean holds = c == '<' ? order < 0 : c == '>' ? order > 0 : order == 0;
        if (holds) {
            needHeld(register);
            int top = register.slotBelowTop(0);
            Row row = register.rowAt(top);
            if (row == null) {
                throw new IndexOutOfBoundsException("a text is wanted and the item is a number");
            }
            texts.enterMacro(row, register.startAt(top), (int) register.valueAt(top));
        }
        stack.drop(2);
    }

    /** Characters that are only ever added behind the others, so that a part of them stays what it is. */
    private static final class Row {
        final byte[] chars;
        int size;

        Row() {
            chars = new byte[PROGRAM_LIMIT];
            size = 0;
        }

        void append(int c) {
            if (size < chars.length) {
                chars[size] = (byte) c;
                size++;
            }
        }

        int charAt(int i) {
            return i < 0 || i >= size || i >= chars.length ? END_OF_TEXT : chars[i];
        }
    }

    /**
     * A stack of items in slots, slot 0 at the bottom. A text is a part of a row; it is
     * not copied, since what all runs make is bounded. A number has no row.
     */
    private static final class Shelf {
        /** A number's m, a text's number of characters. */
        final long[] values;
        final int[] places;
        final Row[] rows;
        final int[] starts;
        int count;

        Shelf(int limit) {
            int slots = limit < 0 ? 0 : limit;
            values = new long[slots];
            places = new int[slots];
            rows = new Row[slots];
            starts = new int[slots];
            count = 0;
        }

        boolean isFull() {
            return count >= values.length;
        }

        boolean has(int slot) {
            return slot >= 0 && slot < count && slot < values.length;
        }

        /** The slot of the i-th item from the top, or one that holds nothing. */
        int slotBelowTop(int i) {
            return i < 0 || i >= count ? -1 : count - 1 - i;
        }

        long valueAt(int slot) {
            return has(slot) ? values[slot] : 0;
        }

        int placesAt(int slot) {
            return has(slot) ? places[slot] : PLACES_OF_NONE;
        }

        Row rowAt(int slot) {
            return has(slot) ? rows[slot] : null;
        }

        int startAt(int slot) {
            return has(slot) ? starts[slot] : 0;
        }

        void putNumber(long m, int itsPlaces) {
            put(m, itsPlaces, null, 0);
        }

        void putText(Row row, int start, int length) {
            put(length, PLACES_OF_TEXT, row, start);
        }

        void putTopOf(Shelf other) {
            int top = other.slotBelowTop(0);
            put(other.valueAt(top), other.placesAt(top), other.rowAt(top), other.startAt(top));
        }

        private void put(long value, int itsPlaces, Row row, int start) {
            if (isFull()) {
                throw new UnsupportedOperationException("too many items");
            }
            count++;
            set(count - 1, value, itsPlaces, row, start);
        }

        private void set(int slot, long value, int itsPlaces, Row row, int start) {
            if (has(slot)) {
                values[slot] = value;
                places[slot] = itsPlaces;
                rows[slot] = row;
                starts[slot] = start;
            }
        }

        void swapTopTwo() {
            int upper = slotBelowTop(0);
            int lower = slotBelowTop(1);
            long value = valueAt(upper);
            int itsPlaces = placesAt(upper);
            Row row = rowAt(upper);
            int start = startAt(upper);
            set(upper, valueAt(lower), placesAt(lower), rowAt(lower), startAt(lower));
            set(lower, value, itsPlaces, row, start);
        }

        void drop(int items) {
            count = Math.max(0, count - items);
        }

        void clear() {
            count = 0;
        }
    }

    /** The texts under way, the innermost last, each with the place that has been reached in it. */
    private static final class Nest {
        final Row[] rows;
        final int[] positions;
        final int[] ends;
        int count;

        Nest() {
            rows = new Row[UNDER_WAY_LIMIT];
            positions = new int[UNDER_WAY_LIMIT];
            ends = new int[UNDER_WAY_LIMIT];
            count = 0;
        }

        private boolean isUnderWay() {
            return count > 0 && count <= rows.length;
        }

        void enter(Row row, int start, int length) {
            if (count < 0 || count >= rows.length) {
                throw new UnsupportedOperationException("too many texts under way");
            }
            rows[count] = row;
            positions[count] = start;
            ends[count] = start + length;
            count++;
        }

        /** A text with nothing left to do is left first, so that a macro can go on as a loop. */
        void enterMacro(Row row, int start, int length) {
            skipBlanks();
            if (look() == END_OF_TEXT) {
                leave();
            }
            enter(row, start, length);
        }

        void leave() {
            count = Math.max(0, count - 1);
        }

        void leaveAll() {
            count = 0;
        }

        Row innermostRow() {
            return isUnderWay() ? rows[count - 1] : null;
        }

        int position() {
            return isUnderWay() ? positions[count - 1] : 0;
        }

        int look() {
            if (!isUnderWay() || positions[count - 1] >= ends[count - 1]) {
                return END_OF_TEXT;
            }
            Row row = rows[count - 1];
            return row == null ? END_OF_TEXT : row.charAt(positions[count - 1]);
        }

        void pass() {
            if (isUnderWay()) {
                positions[count - 1]++;
            }
        }

        void skipBlanks() {
            for (int i = 0; i < PROGRAM_LIMIT && (look() == ' ' || look() == '\n'); i++) {
                pass();
            }
        }
    }

    /** Arithmetic on numbers m / 10^places, with its faults. */
    private static final class Decimal {
        private static final long GREATEST = 999999999999999999L;
        private static final long GREATEST_ROOT = 999999999L;
        private static final int HALVINGS = 31;
        private static final long[] POWERS = {
            1L, 10L, 100L, 1000L, 10000L, 100000L, 1000000L, 10000000L, 100000000L, 1000000000L,
            10000000000L, 100000000000L, 1000000000000L, 10000000000000L, 100000000000000L,
            1000000000000000L, 10000000000000000L, 100000000000000000L, 1000000000000000000L};

        static long sum(long x, int xPlaces, long y, int yPlaces) {
            int greater = Math.max(xPlaces, yPlaces);
            return fitting(raise(x, greater - xPlaces) + raise(y, greater - yPlaces));
        }

        static int order(long x, int xPlaces, long y, int yPlaces) {
            int greater = Math.max(xPlaces, yPlaces);
            return Long.compare(raise(x, greater - xPlaces), raise(y, greater - yPlaces));
        }

        static long times(long a, long b) {
            if (b != 0 && Math.abs(a) > GREATEST / Math.abs(b)) {
                throw new UnsupportedOperationException("more than 18 digits");
            }
            return a * b;
        }

        static long quotient(long x, int xPlaces, long y, int yPlaces, int places) {
            if (y == 0) {
                throw new ArithmeticException("y is 0");
            }
            int power = places + yPlaces - xPlaces;
            return power > 0 ? divide(raise(x, power), y) : divide(x, raise(y, -power));
        }

        static long remainder(long x, int xPlaces, long y, int yPlaces, int places) {
            long q = quotient(x, xPlaces, y, yPlaces, places);
            int productPlaces = places + yPlaces;
            int greater = Math.max(productPlaces, xPlaces);
            if (greater > PLACES_LIMIT) {
                throw new UnsupportedOperationException("more than 9 places");
            }
            long product = raise(times(q, y), greater - productPlaces);
            return fitting(raise(x, greater - xPlaces) - product);
        }

        static long root(long y, int yPlaces, int places) {
            if (y < 0) {
                throw new ArithmeticException("y is below 0");
            }
            long square = raise(y, 2 * places - yPlaces);
            long low = 0;
            long high = GREATEST_ROOT;
            for (int i = 0; i < HALVINGS && low < high; i++) {
                long middle = (low + high + 1) / 2;
                if (middle * middle <= square) {
                    low = middle;
                } else {
                    high = middle - 1;
                }
            }
            return low;
        }

        static int asPlaces(long y, int yPlaces) {
            long whole = cutOff(y, yPlaces);
            if (whole < 0 || whole > PLACES_LIMIT || raise(whole, yPlaces) != y) {
                throw new ArithmeticException("y is no whole number 0 .. 9");
            }
            return (int) whole;
        }

        static long cutOff(long m, int places) {
            return divide(m, powerOfTen(places));
        }

        private static long raise(long m, int power) {
            return times(m, powerOfTen(power));
        }

        private static long powerOfTen(int power) {
            return POWERS[Math.min(Math.max(power, 0), POWERS.length - 1)];
        }

        /** Towards 0; every caller has seen that the divisor is not 0. */
        private static long divide(long dividend, long divisor) {
            return divisor == 0 ? 0 : dividend / divisor;
        }

        private static long fitting(long m) {
            if (Math.abs(m) > GREATEST) {
                throw new UnsupportedOperationException("more than 18 digits");
            }
            return m;
        }
    }
}

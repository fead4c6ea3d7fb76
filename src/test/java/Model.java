import java.math.BigDecimal;
import java.math.BigInteger;
import java.math.RoundingMode;
import java.util.ArrayDeque;
import java.util.ArrayList;
import java.util.Deque;
import java.util.List;
import java.util.regex.Matcher;
import java.util.regex.Pattern;

/**
 * The document once more, written another way: on BigDecimal and String, with a copy of the
 * whole state before each command, which is put back when the command has a fault.
 */
final class Model {
    private static final Pattern NUMBER = Pattern.compile("_?(\\d*)(?:\\.(\\d*))?");
    private static final BigInteger LIMIT = BigInteger.TEN.pow(18);

    private List<Object> stack = new ArrayList<>();
    private List<List<Object>> registers = new ArrayList<>();
    private int k = 0;
    private String program = "";
    private List<Object> prints = new ArrayList<>();
    private int cost = 0;
    private Deque<Part> parts = new ArrayDeque<>();

    /** A text under way: what is left of it. */
    private static final class Part {
        String rest;

        Part(String rest) {
            this.rest = rest;
        }
    }

    Model() {
        for (int i = 0; i < 4; i++) {
            registers.add(new ArrayList<>());
        }
    }

    int write(String text) {
        if (program.length() + text.length() > 160 || text.chars().anyMatch(c -> c > 127)) {
            return -1;
        }
        program += text;
        return text.length();
    }

    int erase() {
        int had = program.length();
        program = "";
        return had;
    }

    void reset() {
        stack.clear();
        registers.forEach(List::clear);
        k = 0;
        prints.clear();
    }

    String run(int fuel) {
        if (fuel < 0 || fuel > 500) {
            return Check.ARGUMENT;
        }
        prints.clear();
        cost = 0;
        parts.clear();
        parts.push(new Part(program));
        while (!parts.isEmpty()) {
            Part part = parts.peek();
            part.rest = withoutBlanks(part.rest);
            if (part.rest.isEmpty()) {
                parts.pop();
                continue;
            }
            if (cost == fuel) {
                return Check.UNSUPPORTED;
            }
            List<Object> stackBefore = new ArrayList<>(stack);
            List<List<Object>> registersBefore = new ArrayList<>();
            registers.forEach(r -> registersBefore.add(new ArrayList<>(r)));
            int kBefore = k;
            try {
                command(part);
                cost++;
            } catch (RuntimeException e) {
                stack = stackBefore;
                registers = registersBefore;
                k = kBefore;
                return "throws." + e.getClass().getSimpleName();
            }
        }
        return Integer.toString(cost);
    }

    String state() {
        StringBuilder state = new StringBuilder();
        state.append(cost).append(" k").append(k).append(" stack");
        stack.forEach(i -> state.append(' ').append(shown(i)));
        state.append(" prints");
        prints.forEach(i -> state.append(' ').append(shown(i)));
        state.append(" held");
        registers.forEach(r -> state.append(' ').append(r.size()));
        return state.toString();
    }

    private static String shown(Object item) {
        return item instanceof BigDecimal n
            ? Check.item(n.unscaledValue().longValueExact(), n.scale())
            : Check.item(((String) item).length(), -1);
    }

    private static String withoutBlanks(String text) {
        int i = 0;
        while (i < text.length() && (text.charAt(i) == ' ' || text.charAt(i) == '\n')) {
            i++;
        }
        return text.substring(i);
    }

    private void command(Part part) {
        char c = part.rest.charAt(0);
        if ("0123456789._".indexOf(c) >= 0) {
            number(part);
        } else if (c == '[') {
            text(part);
        } else if ("slSL<>=".indexOf(c) >= 0) {
            char letter = part.rest.length() > 1 ? part.rest.charAt(1) : '?';
            if (letter < 'a' || letter > 'd') {
                throw new IllegalArgumentException();
            }
            part.rest = part.rest.substring(2);
            List<Object> register = registers.get(letter - 'a');
            if ("<>=".indexOf(c) >= 0) {
                condition(c, register);
            } else {
                register(c, register);
            }
        } else {
            part.rest = part.rest.substring(1);
            plain(c);
        }
        if (stack.size() > 40 || registers.stream().anyMatch(r -> r.size() > 10)) {
            throw new UnsupportedOperationException();
        }
    }

    private void number(Part part) {
        Matcher matcher = NUMBER.matcher(part.rest);
        if (!matcher.lookingAt()) {
            throw new IllegalArgumentException();
        }
        String before = matcher.group(1);
        String behind = matcher.group(2) == null ? "" : matcher.group(2);
        String digits = before + behind;
        if (digits.isEmpty() || digits.length() > 18 || behind.length() > 9) {
            throw new IllegalArgumentException();
        }
        BigInteger m = new BigInteger(digits);
        stack.add(new BigDecimal(matcher.group().startsWith("_") ? m.negate() : m, behind.length()));
        part.rest = part.rest.substring(matcher.end());
    }

    private void text(Part part) {
        int open = 0;
        for (int i = 0; i < part.rest.length(); i++) {
            open += part.rest.charAt(i) == '[' ? 1 : part.rest.charAt(i) == ']' ? -1 : 0;
            if (open == 0) {
                stack.add(part.rest.substring(1, i));
                part.rest = part.rest.substring(i + 1);
                return;
            }
        }
        throw new IllegalArgumentException();
    }

    private static Object take(List<Object> from) {
        if (from.isEmpty()) {
            throw new IllegalStateException();
        }
        return from.remove(from.size() - 1);
    }

    private BigDecimal[] takeNumbers(int count) {
        if (stack.size() < count) {
            throw new IllegalStateException();
        }
        BigDecimal[] taken = new BigDecimal[count];
        for (int i = count - 1; i >= 0; i--) {
            if (!(take(stack) instanceof BigDecimal n)) {
                throw new IndexOutOfBoundsException();
            }
            taken[i] = n;
        }
        return taken;
    }

    private void register(char c, List<Object> register) {
        if (c == 's' || c == 'S') {
            Object top = take(stack);
            if (c == 's' && !register.isEmpty()) {
                take(register);
            }
            register.add(top);
        } else {
            Object top = take(register);
            stack.add(top);
            if (c == 'l') {
                register.add(top);
            }
        }
    }

    private void condition(char c, List<Object> register) {
        BigDecimal[] n = takeNumbers(2);
        int greater = Math.max(n[0].scale(), n[1].scale());
        int order = withPlaces(n[1], greater).compareTo(withPlaces(n[0], greater));
        if (c == '<' && order < 0 || c == '>' && order > 0 || c == '=' && order == 0) {
            Object top = take(register);
            register.add(top);
            if (!(top instanceof String s)) {
                throw new IndexOutOfBoundsException();
            }
            macro(s);
        }
    }

    private void macro(String text) {
        if (withoutBlanks(parts.peek().rest).isEmpty()) {
            parts.pop();
        }
        if (parts.size() == 12) {
            throw new UnsupportedOperationException();
        }
        parts.push(new Part(text));
    }

    private static BigDecimal fitting(BigDecimal n) {
        if (n.unscaledValue().abs().compareTo(LIMIT) >= 0) {
            throw new UnsupportedOperationException();
        }
        return n;
    }

    private static BigDecimal withPlaces(BigDecimal n, int places) {
        return fitting(n.setScale(places, RoundingMode.UNNECESSARY));
    }

    private void plain(char c) {
        switch (c) {
            case '+', '-', '*', '/', '%' -> {
                BigDecimal[] n = takeNumbers(2);
                stack.add(calculated(c, n[0], n[1]));
            }
            case 'v' -> stack.add(root(takeNumbers(1)[0]));
            case '~' -> stack.add(takeNumbers(1)[0].negate());
            case 'X' -> stack.add(BigDecimal.valueOf(takeNumbers(1)[0].scale()));
            case 'k' -> {
                BigDecimal y = takeNumbers(1)[0];
                k = -1;
                for (int i = 0; i <= 9; i++) {
                    k = y.compareTo(BigDecimal.valueOf(i)) == 0 ? i : k;
                }
                if (k < 0) {
                    throw new ArithmeticException();
                }
            }
            case 'd' -> {
                Object top = take(stack);
                stack.add(top);
                stack.add(top);
            }
            case 'r' -> {
                if (stack.size() < 2) {
                    throw new IllegalStateException();
                }
                stack.add(stack.remove(stack.size() - 2));
            }
            case 'D' -> take(stack);
            case 'c' -> stack.clear();
            case 'z' -> stack.add(BigDecimal.valueOf(stack.size()));
            case 'K' -> stack.add(BigDecimal.valueOf(k));
            case 'p' -> {
                Object top = take(stack);
                stack.add(top);
                if (prints.size() < 40) {
                    prints.add(top);
                }
            }
            case 'x' -> {
                Object top = take(stack);
                if (top instanceof String s) {
                    macro(s);
                } else {
                    stack.add(top);
                }
            }
            case 'q' -> parts.clear();
            default -> throw new IllegalArgumentException();
        }
    }

    private BigDecimal calculated(char c, BigDecimal x, BigDecimal y) {
        int greater = Math.max(x.scale(), y.scale());
        switch (c) {
            case '+':
                return fitting(withPlaces(x, greater).add(withPlaces(y, greater)));
            case '-':
                return fitting(withPlaces(x, greater).subtract(withPlaces(y, greater)));
            case '*':
                BigDecimal product = fitting(x.multiply(y));
                return product.setScale(Math.min(product.scale(), Math.max(k, greater)), RoundingMode.DOWN);
            case '/':
                return quotient(x, y);
            default:
                BigDecimal whole = fitting(quotient(x, y).multiply(y));
                int places = Math.max(k + y.scale(), x.scale());
                if (places > 9) {
                    throw new UnsupportedOperationException();
                }
                return fitting(withPlaces(x, places).subtract(withPlaces(whole, places)));
        }
    }

    private BigDecimal quotient(BigDecimal x, BigDecimal y) {
        if (y.signum() == 0) {
            throw new ArithmeticException();
        }
        int power = k + y.scale() - x.scale();
        fitting(new BigDecimal((power > 0 ? x : y).unscaledValue().multiply(BigInteger.TEN.pow(Math.abs(power)))));
        return x.divide(y, k, RoundingMode.DOWN);
    }

    private BigDecimal root(BigDecimal y) {
        if (y.signum() < 0) {
            throw new ArithmeticException();
        }
        int places = Math.max(k, y.scale());
        BigDecimal square = withPlaces(y, 2 * places);
        return new BigDecimal(square.unscaledValue().sqrt(), places);
    }
}

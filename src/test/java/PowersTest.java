import java.math.BigInteger;

/** Terms, promise 4: what is brought to other places on the way, for every power of ten, on both sides of 18 digits. */
final class PowersTest {
    private static final int DIGITS = 18;
    private static final int PLACES = 9;

    public static void main(String[] args) {
        Check check = new Check();
        for (int power = 1; power <= PLACES; power++) {
            sums(check, power);
            comparisons(check, power);
            cutProducts(check, power);
            quotientsOfRaisedY(check, power);
            remaindersOfRaisedY(check, power);
            precision(check, power);
        }
        for (int k = 0; k <= PLACES; k++) {
            for (int places = 0; places <= PLACES; places++) {
                quotientsOfRaisedX(check, k, places);
                remaindersOfRaisedX(check, k, places);
                roots(check, k, places);
            }
        }
        check.end();
    }

    /** The greatest whole number that has 18 digits when it is raised by this power. */
    private static String greatest(int power) {
        return power == DIGITS ? "0" : "9".repeat(DIGITS - power);
    }

    /** The next greater one. */
    private static String tooGreat(int power) {
        return "1" + "0".repeat(DIGITS - power);
    }

    private static String raised(String m, int power) {
        return m.equals("0") ? m : m + "0".repeat(power);
    }

    /** The number m / 10^places as it stands in a program. */
    private static String written(String m, int places) {
        String digits = "0".repeat(Math.max(0, places - m.length())) + m;
        int point = digits.length() - places;
        return digits.substring(0, point) + "." + digits.substring(point);
    }

    private static String item(String m, int places) {
        return places == 0 ? m : m + ":" + places;
    }

    private static void sums(Check check, int power) {
        String zero = written("0", power);
        String sum = item(raised(greatest(power), power), power);
        check.program(greatest(power) + " " + zero + "+", "3", sum);
        check.program(zero + " " + greatest(power) + "+", "3", sum);
        check.program("_" + greatest(power) + " " + zero + "-", "3", "-" + sum);
        check.refused(tooGreat(power) + " " + zero, "+", Check.UNSUPPORTED);
        check.refused(zero + " " + tooGreat(power), "-", Check.UNSUPPORTED);
    }

    private static void comparisons(Check check, int power) {
        String same = greatest(power) + "." + "0".repeat(power);
        check.program("[7]sa" + greatest(power) + " " + same + "=a", "6", "7");
        check.program("[7]sa" + same + " " + greatest(power) + "=a", "6", "7");
        String next = written(new BigInteger(raised(greatest(power), power)).add(BigInteger.ONE).toString(), power);
        check.program("[7]sa" + greatest(power) + " " + next + "=a", "5", "");
        check.program("[7]sa" + greatest(power) + " " + next + ">a", "6", "7");
        check.refused("[7]sa" + tooGreat(power) + " " + written("0", power), "<a", Check.UNSUPPORTED);
        check.refused("[7]sa" + written("0", power) + " " + tooGreat(power), ">a", Check.UNSUPPORTED);
    }

    private static void cutProducts(Check check, int power) {
        String one = written(raised("1", power), power);
        String least = written("1", power);
        if (2 * power < DIGITS) {
            check.program(one + " " + one + "*", "3", item(raised("1", power), power));
        }
        check.program(one + " " + least + "*", "3", item("1", power));
        String nines = "9".repeat(power);
        String cut = new BigInteger(nines).subtract(BigInteger.ONE).toString();
        check.program("." + nines + " ." + nines + "*", "3", item(cut, power));
        check.program("_." + nines + " ." + nines + "*", "3", item(cut.equals("0") ? cut : "-" + cut, power));
    }

    private static void quotientsOfRaisedY(Check check, int power) {
        BigInteger same = new BigInteger(raised(greatest(power), power));
        String y = greatest(power);
        check.program(written(same.toString(), power) + " " + y + "/", "3", "1");
        check.program(written(same.subtract(BigInteger.ONE).toString(), power) + " " + y + "/", "3", "0");
        check.program(written(same.add(BigInteger.ONE).toString(), power) + " " + y + "/", "3", "1");
        check.refused(written("1", power) + " " + tooGreat(power), "/", Check.UNSUPPORTED);
    }

    private static void remaindersOfRaisedY(Check check, int power) {
        BigInteger same = new BigInteger(raised(greatest(power), power));
        String y = greatest(power);
        String less = same.subtract(BigInteger.ONE).toString();
        check.program(written(same.toString(), power) + " " + y + "%", "3", item("0", power));
        check.program(written(less, power) + " " + y + "%", "3", item(less, power));
        check.program(written(same.add(BigInteger.ONE).toString(), power) + " " + y + "%", "3", item("1", power));
        check.refused(written("1", power) + " " + tooGreat(power), "%", Check.UNSUPPORTED);
    }

    private static void precision(Check check, int power) {
        BigInteger nine = new BigInteger(raised("9", power));
        check.program(written(nine.toString(), power) + "kK", "3", "9");
        check.refused(written(nine.add(BigInteger.ONE).toString(), power), "k", Check.ARITHMETIC);
        check.refused(written(nine.subtract(BigInteger.ONE).toString(), power), "k", Check.ARITHMETIC);
        check.refused(written(raised("10", power), power), "k", Check.ARITHMETIC);
        check.refused(written("1", power), "k", Check.ARITHMETIC);
        check.refused("_" + written("1", power), "k", Check.ARITHMETIC);
    }

    private static void quotientsOfRaisedX(Check check, int k, int places) {
        int power = k + places;
        String y = written("1", places);
        check.program(k + "k" + greatest(power) + " " + y + "/", "5", item(raised(greatest(power), power), k));
        if (power > 0) {
            check.refused(k + "k" + tooGreat(power) + " " + y, "/", Check.UNSUPPORTED);
        }
    }

    private static void remaindersOfRaisedX(Check check, int k, int places) {
        int power = k + places;
        String y = written("1", places);
        if (power > PLACES) {
            check.refused(k + "k" + greatest(power) + " " + y, "%", Check.UNSUPPORTED);
        } else {
            check.program(k + "k" + greatest(power) + " " + y + "%", "5", item("0", power));
        }
        if (power > 0) {
            check.refused(k + "k" + tooGreat(power) + " " + y, "%", Check.UNSUPPORTED);
        }
    }

    private static void roots(Check check, int k, int places) {
        int result = Math.max(k, places);
        int power = 2 * result - places;
        String root = new BigInteger(raised(greatest(power), power)).sqrt().toString();
        check.program(k + "k" + written(greatest(power), places) + "v", "4", item(root, result));
        if (power > 0) {
            check.refused(k + "k" + written(tooGreat(power), places), "v", Check.UNSUPPORTED);
        }
    }
}

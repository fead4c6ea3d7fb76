/** Promise 4: numbers and texts as they stand in a program. */
final class WrittenItemsTest {
    public static void main(String[] args) {
        Check check = new Check();
        numbers(check);
        rows(check);
        wrongNumbers(check);
        texts(check);
        check.end();
    }

    private static void numbers(Check check) {
        check.program("0", "1", "0");
        check.program("007", "1", "7");
        check.program("5.", "1", "5");
        check.program(".5", "1", "5:1");
        check.program("1.50", "1", "150:2");
        check.program("_3", "1", "-3");
        check.program("_.25", "1", "-25:2");
        check.program("_0.0", "1", "0:1");
        check.program("999999999999999999", "1", "999999999999999999");
        check.program("_999999999999999999", "1", "-999999999999999999");
        check.program("123456789.123456789", "1", "123456789123456789:9");
        check.program(".000000001", "1", "1:9");
        check.program("000000000000000001", "1", "1");
    }

    private static void rows(Check check) {
        check.program("1.2.3", "2", "12:1 3:1");
        check.program("1..2", "2", "1 2:1");
        check.program("1_2", "2", "1 -2");
        check.program("1 2\n3", "3", "1 2 3");
        check.program("  \n\n ", "0", "");
        check.program("1.2.3.4", "3", "12:1 3:1 4:1");
        check.program("12[3]4", "3", "12 [1] 4");
    }

    private static void wrongNumbers(Check check) {
        check.program("1 .", Check.ARGUMENT, "1");
        check.program("1 _", Check.ARGUMENT, "1");
        check.program("_.", Check.ARGUMENT, "");
        check.program("__1", Check.ARGUMENT, "");
        check.program("_ 1", Check.ARGUMENT, "");
        check.program("..1", Check.ARGUMENT, "");
        check.program("1..", Check.ARGUMENT, "1");
        check.program("._1", Check.ARGUMENT, "");
        check.program("1234567890123456789", Check.ARGUMENT, "");
        check.program("0000000000000000000", Check.ARGUMENT, "");
        check.program("1234567890.123456789", Check.ARGUMENT, "");
        check.program(".0000000000", Check.ARGUMENT, "");
        check.program("1.1234567890", Check.ARGUMENT, "");
        check.program("9".repeat(160), Check.ARGUMENT, "");
    }

    private static void texts(Check check) {
        check.program("[]", "1", "[0]");
        check.program("[abc]", "1", "[3]");
        check.program("[a[b]c[]]1", "2", "[7] 1");
        check.program("[ \n?\u0001\u007f]", "1", "[5]");
        check.program("[" + "?".repeat(158) + "]", "1", "[158]");
        check.program("[".repeat(80) + "]".repeat(80), "1", "[158]");
        check.program("1[", Check.ARGUMENT, "1");
        check.program("[[]", Check.ARGUMENT, "");
        check.program("[".repeat(160), Check.ARGUMENT, "");
        check.program("[]]", Check.ARGUMENT, "[0]");
        check.program("[[]x", Check.ARGUMENT, "");
        // The bracket that ends a text must stand in the same text.
        check.program("[1[2]x]x", "6", "1 2");
    }
}

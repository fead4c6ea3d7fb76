/** Promise 4: macros, conditions, q, and how many texts are under way. */
final class MacrosTest {
    public static void main(String[] args) {
        Check check = new Check();
        macros(check);
        conditions(check);
        conditionFaults(check);
        ends(check);
        nesting(check);
        leftFirst(check);
        check.end();
    }

    private static void macros(Check check) {
        check.program("[1 2+]x", "5", "3");
        check.program("[1]x2", "4", "1 2");
        check.program("5x", "2", "5");
        check.program("[]x", "2", "");
        check.program("[  ]x3", "3", "3");
        check.program("[[1]x2]x3", "7", "1 2 3");
        check.program("[2*]sa3lax5lax", "12", "6 10");
        check.program("3[d1-d0<a]saD5laxla", "38", "5 4 3 2 1 0 [7]");
        check.program("1[2", Check.ARGUMENT, "1");
        // A letter behind the macro's end does not belong to its last command.
        check.program("7[s]xa", Check.ARGUMENT, "7");
        check.program("1[_]x5", Check.ARGUMENT, "1");
        check.program("[1]x2", "4", "1 2");
    }

    private static void conditions(Check check) {
        String ten = "[10]sa";
        // y is the top, x the item below it.
        check.program(ten + "2 1<a", "6", "10");
        check.program(ten + "1 2<a", "5", "");
        check.program(ten + "1 1<a", "5", "");
        check.program(ten + "1 2>a", "6", "10");
        check.program(ten + "2 1>a", "5", "");
        check.program(ten + "2 2>a", "5", "");
        check.program(ten + "2 2=a", "6", "10");
        check.program(ten + "2 2.00=a", "6", "10");
        check.program(ten + "2 2.01=a", "5", "");
        check.program(ten + "2 2.01>a", "6", "10");
        check.program(ten + "_1 _1.5<a", "6", "10");
        check.program(ten + "1.05 1.1>a", "6", "10");
        check.program(ten + "1.1 1.05<a", "6", "10");
        check.program(ten + "1.1 1.05>a", "5", "");
        check.program(ten + "1.50 1.5=a", "6", "10");
        check.program(ten + "0.00 0=a", "6", "10");
        check.program(ten + "2 1<a5", "7", "10 5");
        check.due("held(0)", check.program(ten + "2 1<a", "6", "10").held(0), 1);
        // A condition that does not hold wants nothing of the register.
        check.program("1 2<a", "3", "");
        check.program("7sb1 2=b", "5", "");
        check.program("0si[lid1+si5li<a]sa5li<a", Check.ARGUMENT, "0");
        check.program("0Sb[lbd1+sb5lb<a]sa5lb<ac", "48", "");
    }

    private static void conditionFaults(Check check) {
        check.program("1 1=a", Check.STATE, "1 1");
        check.program("7sa1 1=a", Check.INDEX, "1 1");
        check.program("1<a", Check.STATE, "1");
        check.program("<a", Check.STATE, "");
        check.program("<", Check.ARGUMENT, "");
        check.program("1 1=e", Check.ARGUMENT, "1 1");
        check.program("1 1= a", Check.ARGUMENT, "1 1");
        check.program("1[]=a", Check.INDEX, "1 [0]");
        check.program("[]1=a", Check.INDEX, "[0] 1");
        // All that is said of x and y comes before what is said of the register.
        check.program("1.0 999999999999999999=a", Check.UNSUPPORTED, "10:1 999999999999999999");
        check.program("7sa999999999999999999 1.0>a", Check.UNSUPPORTED, "999999999999999999 10:1");
        check.program("0.0 99999999999999999>a", Check.STATE, "0:1 99999999999999999");
    }

    private static void ends(Check check) {
        check.program("q", "1", "");
        check.program("1q2", "2", "1");
        check.program("[1q2]x3", "4", "1");
        check.program("[[1q]x2]x3", "6", "1");
        check.program("1q?", "2", "1");
        check.program("[q]sa1 1=a5", "6", "");
    }

    /** Each text runs the next one and has more to do behind it. */
    private static String nested(int texts) {
        String program = "1";
        for (int i = 1; i < texts; i++) {
            program = "[" + program + "]x1";
        }
        return program;
    }

    private static void nesting(Check check) {
        check.program(nested(12), "34", Check.join(" ", "1", 12));
        DeskStack desk = check.program(nested(13), Check.UNSUPPORTED, "[1]");
        check.due("cost()", desk.cost(), 23);
        desk = check.program("[lax1]salax", Check.UNSUPPORTED, "[4]");
        check.due("cost()", desk.cost(), 27);
        desk = check.program("[lax1]salax2", Check.UNSUPPORTED, "[4]");
        check.due("cost()", desk.cost(), 25);
        desk = check.program("[1d=a1]sa1d=a2", Check.UNSUPPORTED, "1 1");
        check.due("cost()", desk.cost(), 37);
        check.program(desk, "", 9, "0", "1 1");
    }

    private static void leftFirst(Check check) {
        DeskStack desk = check.program("[lax]salax", Check.UNSUPPORTED, "");
        check.due("cost()", desk.cost(), 500);
        desk = check.program("[lax \n ]salax", Check.UNSUPPORTED, "");
        check.due("cost()", desk.cost(), 500);
        desk = check.program("[dx]dx", Check.UNSUPPORTED, "[2] [2]");
        check.due("cost()", desk.cost(), 500);
        desk = check.program("0Sb[lb1+sb1d=a  ]sa1d=a", Check.UNSUPPORTED, "71");
        check.due("cost()", desk.cost(), 500);
        // The twelfth text is left before the thirteenth is entered.
        check.program("[7]sa" + nested(12).replace("[1]", "[lax]"), "38", "7 " + Check.join(" ", "1", 11));
        check.program("[7]sa" + nested(12).replace("[1]", "[lax ]"), "38", "7 " + Check.join(" ", "1", 11));
    }
}

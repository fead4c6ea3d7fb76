/** Promises 2 and 3: write and erase. */
final class ProgramTest {
    public static void main(String[] args) {
        Check check = new Check();
        counts(check);
        order(check);
        refusedCharacters(check);
        limit(check);
        erased(check);
        textsOutliveTheProgram(check);
        check.end();
    }

    private static void counts(Check check) {
        DeskStack desk = new DeskStack();
        check.due("write of nothing", desk.write(0L), 0);
        check.due("write of 1", desk.write(Check.chars("1")), 1);
        check.due("write of 8", desk.write(Check.chars("12345678")), 8);
        check.due("write of code 1 and 127", desk.write(0x7F01L), 2);
        check.due("erase()", desk.erase(), 11);
    }

    private static void order(Check check) {
        DeskStack desk = new DeskStack();
        desk.write(Check.chars("12"));
        desk.write(Check.chars("34 5"));
        check.due("run", Check.run(desk, 9), "2");
        check.due("stack", Check.stack(desk), "1234 5");
        // What stands above the value 0 is no character, so 255 there is not refused.
        desk = new DeskStack();
        check.due("write that ends at 0", desk.write(0xFFFF_FF00_3231_0033L), 1);
        check.due("run", Check.run(desk, 9), "1");
        check.due("stack", Check.stack(desk), "3");
    }

    private static void refusedCharacters(Check check) {
        DeskStack desk = new DeskStack();
        desk.write(Check.chars("7"));
        check.due("write of 128", desk.write(128L), -1);
        check.due("write of 255", desk.write(255L), -1);
        check.due("write of 1 and 128", desk.write(0x8031L), -1);
        check.due("write with 128 as the eighth", desk.write(0x8031313131313131L), -1);
        check.due("write(-1)", desk.write(-1L), -1);
        check.due("write(Long.MIN_VALUE)", desk.write(Long.MIN_VALUE), 0);
        check.due("run", Check.run(desk, 9), "1");
        check.due("stack", Check.stack(desk), "7");
        check.due("erase()", desk.erase(), 1);
    }

    private static void limit(Check check) {
        DeskStack desk = new DeskStack();
        for (int i = 0; i < 19; i++) {
            check.due("write", desk.write(Check.chars("        ")), 8);
        }
        check.due("write up to 153", desk.write(Check.chars(" ")), 1);
        check.due("write up to 161", desk.write(Check.chars("11111111")), -1);
        check.due("write up to 160", desk.write(Check.chars("2 3456+")), 7);
        check.due("write at 160", desk.write(Check.chars("1")), -1);
        check.due("write of nothing at 160", desk.write(0L), 0);
        check.due("run", Check.run(desk, 3), "3");
        check.due("stack", Check.stack(desk), "3458");
        check.due("erase()", desk.erase(), 160);
        check.due("write after erase", desk.write(Check.chars("1")), 1);
    }

    private static void erased(Check check) {
        DeskStack desk = check.program("2k[ab]Sc5p", "6", "5");
        check.due("erase()", desk.erase(), 10);
        check.due("erase() again", desk.erase(), 0);
        check.due("stack", Check.stack(desk), "5");
        check.due("held", Check.held(desk), "0 0 1 0");
        check.due("precision()", desk.precision(), 2);
        check.due("prints()", desk.prints(), 1);
        check.due("cost()", desk.cost(), 6);
        check.due("run", Check.run(desk, 0), "0");
    }

    private static void textsOutliveTheProgram(Check check) {
        DeskStack desk = check.program("[1 2+]Sa[3 4*]", "3", "[4]");
        check.program(desk, "7777777777777777x", 9, "2", "[4] 7777777777777777");
        check.program(desk, "DxLax_9999", 11, "11", "12 3 -9999");
    }
}

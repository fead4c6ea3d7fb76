/** Promises 2 and 3: the bounds of write and erase. */
final class WriteBoundsTest {
    private static final int LIMIT = 160;

    public static void main(String[] args) {
        Check check = new Check();
        howMany(check);
        endedByZero(check);
        codes(check);
        refusedCodes(check);
        codesBehindTheEnd(check);
        fullProgram(check);
        refusedLength(check);
        erased(check);
        check.end();
    }

    private static DeskStack written(String program) {
        DeskStack desk = new DeskStack();
        Check.write(desk, program);
        return desk;
    }

    /** "Up to eight characters are put behind the program": "how many there were" */
    private static void howMany(Check check) {
        for (int count = 0; count <= 8; count++) {
            DeskStack desk = new DeskStack();
            String part = "12345678".substring(0, count);
            check.due("write:" + part, desk.write(Check.chars(part)), count);
            check.due("run", Check.run(desk, 9), count == 0 ? "0" : "1");
            check.due("stack", Check.stack(desk), part);
            check.due("erase()", desk.erase(), count);
        }
        DeskStack desk = written("1 2");
        check.due("write", desk.write(Check.chars("3")), 1);
        check.due("write", desk.write(Check.chars("4 5 6 7 ")), 8);
        check.due("run", Check.run(desk, 9), "5");
        check.due("stack", Check.stack(desk), "1 234 5 6 7");
    }

    /** "a value of 0 ends them" */
    private static void endedByZero(Check check) {
        for (int zero = 0; zero < 8; zero++) {
            DeskStack desk = new DeskStack();
            long chars = Check.chars("12345678") & ~(255L << (8 * zero));
            check.due("write with 0 at " + zero, desk.write(chars), zero);
            check.due("run", Check.run(desk, 9), zero == 0 ? "0" : "1");
            check.due("stack", Check.stack(desk), "12345678".substring(0, zero));
            check.due("erase()", desk.erase(), zero);
        }
        check.due("write(0)", new DeskStack().write(0L), 0);
        check.due("write(256)", new DeskStack().write(256L), 0);
        check.due("write(Long.MIN_VALUE)", new DeskStack().write(Long.MIN_VALUE), 0);
    }

    private static void codes(Check check) {
        for (int i = 0; i < 8; i++) {
            for (long code : new long[] {1, 2, 126, 127}) {
                DeskStack desk = new DeskStack();
                long chars = Check.chars("11111111") & ~(255L << (8 * i)) | code << (8 * i);
                check.due("write of " + code + " at " + i, desk.write(chars), 8);
                check.due("erase()", desk.erase(), 8);
            }
        }
        check.due("write of 127 only", new DeskStack().write(0x7F7F_7F7F_7F7F_7F7FL), 8);
    }

    /** "-1 refused (nothing changes): one of them is above 127" */
    private static void refusedCodes(Check check) {
        for (int i = 0; i < 8; i++) {
            for (long code : new long[] {128, 129, 178, 255}) {
                DeskStack desk = written("[7]Sa5p2k3 ");
                long chars = Check.chars("11111111") & ~(255L << (8 * i)) | code << (8 * i);
                check.due("write of " + code + " at " + i, desk.write(chars), -1);
                check.same("write of " + code + " at " + i, desk, written("[7]Sa5p2k3 "));
                long last = chars & (-1L >>> (8 * (7 - i)));
                check.due("write that ends with " + code + " at " + i, new DeskStack().write(last), -1);
            }
        }
        DeskStack desk = written("3 ");
        check.due("write(-1)", desk.write(-1L), -1);
        check.due("write(Long.MAX_VALUE)", desk.write(Long.MAX_VALUE), -1);
        check.same("write(-1) and write(Long.MAX_VALUE)", desk, written("3 "));
    }

    /** What stands above the value 0 is none of them. */
    private static void codesBehindTheEnd(Check check) {
        for (int zero = 0; zero < 7; zero++) {
            DeskStack desk = new DeskStack();
            long chars = Check.chars("1111111") & (1L << (8 * zero)) - 1 | -1L << (8 * zero) << 8;
            check.due("write with 0 at " + zero + " and 255 behind it", desk.write(chars), zero);
            check.due("erase()", desk.erase(), zero);
        }
    }

    /** "or the program would have more than 160" */
    private static void fullProgram(Check check) {
        for (int count = 0; count <= 8; count++) {
            String part = "12345678".substring(0, count);
            for (int before = LIMIT - count - 1; before <= LIMIT - count; before++) {
                DeskStack desk = written(" ".repeat(before));
                check.due("write of " + count + " behind " + before, desk.write(Check.chars(part)), count);
                check.due("run", Check.run(desk, 9), count == 0 ? "0" : "1");
                check.due("stack", Check.stack(desk), part);
                check.due("erase()", desk.erase(), before + count);
            }
        }
    }

    private static void refusedLength(Check check) {
        for (int count = 1; count <= 8; count++) {
            String program = "[7]Sa5p3" + " ".repeat(LIMIT - count + 1 - 8);
            DeskStack desk = written(program);
            check.due("write of " + count + " up to 161", desk.write(Check.chars("DDDDDDDD".substring(0, count))), -1);
            check.same("write of " + count + " up to 161", desk, written(program));
            // Room for fewer is still there.
            desk = written(program);
            desk.write(Check.chars("DDDDDDDD".substring(0, count)));
            String fewer = "DDDDDDDD".substring(0, count - 1);
            check.due("write of " + fewer + " up to 160", desk.write(Check.chars(fewer)), count - 1);
            check.due("erase()", desk.erase(), LIMIT);
        }
        DeskStack full = written("5" + " ".repeat(LIMIT - 1));
        check.due("write of 8 at 160", full.write(Check.chars("11111111")), -1);
        check.due("write of nothing at 160", full.write(0L), 0);
        check.due("write of 128 at 160", full.write(128L), -1);
        check.same("writes at 160", full, written("5" + " ".repeat(LIMIT - 1)));
    }

    /** "The program becomes empty: how many characters it had", and all else stays */
    private static void erased(Check check) {
        for (int had : new int[] {0, 1, 159, 160}) {
            DeskStack desk = written("1".repeat(had));
            check.due("erase()", desk.erase(), had);
            check.due("erase() again", desk.erase(), 0);
            check.due("run of the empty program", Check.run(desk, 0), "0");
            Check.write(desk, " ".repeat(LIMIT));
            check.due("erase() after 160 more", desk.erase(), LIMIT);
        }
        DeskStack desk = check.program("2k5p[7]Sa3[8]", "8", "5 3 [1]");
        desk.erase();
        check.due("state after erase()", Check.state(desk), "k2 stack 5 3 [1] prints 5 held 1 0 0 0");
        check.due("cost() after erase()", desk.cost(), 8);
        // The texts are still what they were, whatever the program has become.
        check.program(desk, "999999999999d~DDxLax", 10, "10", "5 3 8 7");
    }
}

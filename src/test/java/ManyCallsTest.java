/** "An object is used for at most 512 calls after it has been made": up to the last one all is as due. */
final class ManyCallsTest {
    private static final int CALLS = 512;

    public static void main(String[] args) {
        Check check = new Check();
        runs(check);
        programs(check);
        refusedCalls(check);
        check.end();
    }

    private static void runs(Check check) {
        DeskStack desk = new DeskStack();
        desk.write(Check.chars("c1SaLap"));
        for (int call = 2; call <= CALLS; call++) {
            check.due("call " + call + ", run(500)", Check.run(desk, 500), "5");
        }
    }

    /** Texts that stay on the stack while the program becomes another one again and again. */
    private static void programs(Check check) {
        DeskStack desk = new DeskStack();
        desk.write(Check.chars("[77]Sb"));
        check.due("run(9)", Check.run(desk, 9), "2");
        for (int call = 3; call + 3 <= CALLS; call += 4) {
            check.due("call " + call + ", erase()", desk.erase(), call == 3 ? 6 : 8);
            check.due("call " + (call + 1) + ", write", desk.write(Check.chars("8lbx  -D")), 8);
            check.due("call " + (call + 2) + ", run(9)", Check.run(desk, 9), "6");
            check.due("call " + (call + 3) + ", depth()", desk.depth(), 0);
        }
    }

    private static void refusedCalls(Check check) {
        DeskStack desk = new DeskStack();
        for (int call = 1; call + 3 < CALLS; call += 4) {
            check.due("write(-1)", desk.write(-1L), -1);
            check.due("run(501)", Check.run(desk, 501), Check.ARGUMENT);
            check.due("held(4)", desk.held(4), -1);
            check.due("item(0)", desk.item(0), 0);
        }
        check.due("erase()", desk.erase(), 0);
    }
}

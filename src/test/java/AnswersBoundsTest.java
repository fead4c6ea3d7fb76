/** Promises 6 to 14: indexes outside and on the edge, the 40 prints that count, and reset. */
final class AnswersBoundsTest {
    private static final int LIMIT = 40;
    private static final int[] FAR = {-1, -2, 41, 42, 64, 128, 256, 65536, Integer.MIN_VALUE, Integer.MIN_VALUE + 1, Integer.MAX_VALUE};

    public static void main(String[] args) {
        Check check = new Check();
        noPrints(check);
        fewPrints(check);
        printsThatCount(check);
        printedTexts(check);
        printIsACopy(check);
        emptyStack(check);
        itemsOfTheStack(check);
        fullStack(check);
        itemsTakenAway(check);
        greatestItems(check);
        registers(check);
        resetOfAll(check);
        resetOfAFullObject(check);
        resetOfANewObject(check);
        check.end();
    }

    private static void print(Check check, DeskStack desk, int i, long m, int places) {
        check.due("printed(" + i + ")", desk.printed(i), m);
        check.due("places(" + i + ")", desk.places(i), places);
    }

    private static void item(Check check, DeskStack desk, int i, long m, int places) {
        check.due("item(" + i + ")", desk.item(i), m);
        check.due("scale(" + i + ")", desk.scale(i), places);
    }

    /** "0 if there is none", and "-2 if there is none" */
    private static void noPrints(Check check) {
        DeskStack desk = check.program("5", "1", "5");
        check.due("prints()", desk.prints(), 0);
        print(check, desk, 0, 0, -2);
        print(check, desk, 1, 0, -2);
        for (int i : FAR) {
            print(check, desk, i, 0, -2);
        }
    }

    /** "The i-th item printed (0 the first)" */
    private static void fewPrints(Check check) {
        DeskStack desk = check.program("5p_6.0p7.000000000p", "6", "5 -60:1 7000000000:9");
        check.due("prints()", desk.prints(), 3);
        print(check, desk, 0, 5, 0);
        print(check, desk, 1, -60, 1);
        print(check, desk, 2, 7000000000L, 9);
        print(check, desk, 3, 0, -2);
        print(check, desk, 40, 0, -2);
        for (int i : FAR) {
            print(check, desk, i, 0, -2);
        }
    }

    /** "(at most 40 count, further ones are not kept)" */
    private static void printsThatCount(Check check) {
        for (int count = LIMIT - 1; count <= LIMIT + 2; count++) {
            DeskStack desk = check.program("1" + "p1+".repeat(count), String.valueOf(1 + 3 * count), String.valueOf(count + 1));
            int kept = Math.min(count, LIMIT);
            check.due("prints()", desk.prints(), kept);
            print(check, desk, 0, 1, 0);
            print(check, desk, kept - 1, kept, 0);
            print(check, desk, kept, 0, -2);
            print(check, desk, -1, 0, -2);
            check.program(desk, "p", 9, "1", String.valueOf(count + 1));
            check.due("prints() of the next run", desk.prints(), 1);
            print(check, desk, 0, count + 1, 0);
            print(check, desk, 1, 0, -2);
        }
        // A print that is not kept is a command like others.
        DeskStack desk = check.program("1" + "p".repeat(LIMIT + 5) + "?", Check.ARGUMENT, "1");
        check.due("cost()", desk.cost(), LIMIT + 6);
        check.due("prints()", desk.prints(), LIMIT);
        check.refused("1" + "p".repeat(LIMIT) + "D", "p", Check.STATE);
    }

    /** "the number of its characters if it is a text", and "-1 if it is a text" */
    private static void printedTexts(Check check) {
        DeskStack desk = check.program("[]p[a]p[" + "1".repeat(150) + "]p", "6", "[0] [1] [150]");
        print(check, desk, 0, 0, -1);
        print(check, desk, 1, 1, -1);
        print(check, desk, 2, 150, -1);
        print(check, desk, 3, 0, -2);
    }

    private static void printIsACopy(Check check) {
        DeskStack desk = check.program("5pD[a]pDc", "7", "");
        check.due("prints", Check.prints(desk), "5 [1]");
        desk.erase();
        check.due("prints after erase()", Check.prints(desk), "5 [1]");
        desk.write(-1L);
        check.due("prints after write(-1)", Check.prints(desk), "5 [1]");
        Check.run(desk, 501);
        check.due("prints after run(501)", Check.prints(desk), "5 [1]");
    }

    private static void emptyStack(Check check) {
        DeskStack desk = check.program("5D", "2", "");
        check.due("depth()", desk.depth(), 0);
        item(check, desk, 0, 0, -2);
        item(check, desk, 1, 0, -2);
        for (int i : FAR) {
            item(check, desk, i, 0, -2);
        }
    }

    /** "The i-th item of the stack, 0 the top", "0 if there is none", and "-2 if there is none" */
    private static void itemsOfTheStack(Check check) {
        DeskStack desk = check.program("5_6.0[abc][]", "4", "5 -60:1 [3] [0]");
        check.due("depth()", desk.depth(), 4);
        item(check, desk, 0, 0, -1);
        item(check, desk, 1, 3, -1);
        item(check, desk, 2, -60, 1);
        item(check, desk, 3, 5, 0);
        item(check, desk, 4, 0, -2);
        item(check, desk, 5, 0, -2);
        for (int i : FAR) {
            item(check, desk, i, 0, -2);
        }
    }

    private static void fullStack(Check check) {
        DeskStack desk = new DeskStack();
        Check.write(desk, "5z" + "z".repeat(LIMIT - 2));
        check.due("run", Check.run(desk, LIMIT), "40");
        check.due("depth()", desk.depth(), LIMIT);
        item(check, desk, 0, LIMIT - 1, 0);
        item(check, desk, 1, LIMIT - 2, 0);
        item(check, desk, LIMIT - 2, 1, 0);
        item(check, desk, LIMIT - 1, 5, 0);
        item(check, desk, LIMIT, 0, -2);
        for (int i : FAR) {
            item(check, desk, i, 0, -2);
        }
    }

    /** What was taken is seen no more. */
    private static void itemsTakenAway(Check check) {
        DeskStack desk = check.program("1.5[abc]7", "3", "15:1 [3] 7");
        check.program(desk, "D", 9, "1", "15:1 [3]");
        item(check, desk, 0, 3, -1);
        item(check, desk, 2, 0, -2);
        check.program(desk, "c", 9, "1", "");
        item(check, desk, 0, 0, -2);
        item(check, desk, 1, 0, -2);
    }

    private static void greatestItems(Check check) {
        DeskStack desk = check.program("999999999999999999p_999999999.999999999p", "4", "999999999999999999 -999999999999999999:9");
        item(check, desk, 0, -999999999999999999L, 9);
        item(check, desk, 1, 999999999999999999L, 0);
        print(check, desk, 0, 999999999999999999L, 0);
        print(check, desk, 1, -999999999999999999L, 9);
    }

    /** "(0 for a, .. 3 for d); -1 if r is another number" */
    private static void registers(Check check) {
        for (DeskStack desk : new DeskStack[] {new DeskStack(), check.program("1Sa1Sb1Sb1Sc1Sc1Sc1Sd1Sd1Sd1Sd", "20", "")}) {
            for (int r = 0; r < 4; r++) {
                check.due("held(" + r + ")", desk.held(r), desk.cost() == 0 ? 0 : r + 1);
            }
            for (int r : new int[] {-1, -2, 4, 5, 97, 100, 256, Integer.MIN_VALUE, Integer.MAX_VALUE}) {
                check.due("held(" + r + ")", desk.held(r), -1);
            }
        }
    }

    /** "Stack and registers are empty, K is 0, nothing is printed; the program stays" */
    private static void resetOfAll(Check check) {
        DeskStack desk = check.program("9k5p[7]SaKSbKScKSd3", "13", "5 3");
        check.due("state", Check.state(desk), "k9 stack 5 3 prints 5 held 1 1 1 1");
        desk.reset();
        empty(check, desk);
        check.due("cost()", desk.cost(), 13);
        for (String command : new String[] {"D", "la", "Lb", "lc", "Ld"}) {
            DeskStack other = new DeskStack();
            Check.write(other, "9k5p[7]SaKSbKScKSd3");
            other.run(Check.FUEL);
            other.reset();
            check.program(other, command, 9, Check.STATE, "");
        }
        check.due("run of the program that stays", Check.run(desk, 13), "13");
        check.due("state", Check.state(desk), "k9 stack 5 3 prints 5 held 1 1 1 1");
        desk.reset();
        check.due("erase()", desk.erase(), 19);
        check.program(desk, "7 2/", 9, "3", "3");
    }

    private static void empty(Check check, DeskStack desk) {
        check.due("state", Check.state(desk), "k0 stack prints held 0 0 0 0");
        item(check, desk, 0, 0, -2);
        item(check, desk, 1, 0, -2);
        print(check, desk, 0, 0, -2);
    }

    private static void resetOfAFullObject(Check check) {
        DeskStack desk = check.program("5Sa".repeat(10) + "1" + "p".repeat(LIMIT) + "d".repeat(LIMIT - 1), "100", Check.join(" ", "1", LIMIT));
        desk.reset();
        empty(check, desk);
        check.program(desk, "5Sa".repeat(10) + "1" + "d".repeat(LIMIT - 1), 500, "60", Check.join(" ", "1", LIMIT));
        check.due("held(0)", desk.held(0), 10);
        check.due("prints()", desk.prints(), 0);
    }

    private static void resetOfANewObject(Check check) {
        DeskStack desk = new DeskStack();
        desk.reset();
        empty(check, desk);
        check.due("cost()", desk.cost(), 0);
        check.due("erase()", desk.erase(), 0);
        desk.write(Check.chars("5"));
        desk.reset();
        check.due("run of the program that stays", Check.run(desk, 1), "1");
    }
}

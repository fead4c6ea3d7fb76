/** Promise 1: a new object. */
final class NewObjectTest {
    public static void main(String[] args) {
        Check check = new Check();
        DeskStack desk = new DeskStack();
        check.due("depth()", desk.depth(), 0);
        check.due("item(0)", desk.item(0), 0);
        check.due("scale(0)", desk.scale(0), -2);
        check.due("held", Check.held(desk), "0 0 0 0");
        check.due("precision()", desk.precision(), 0);
        check.due("prints()", desk.prints(), 0);
        check.due("printed(0)", desk.printed(0), 0);
        check.due("places(0)", desk.places(0), -2);
        check.due("cost()", desk.cost(), 0);
        check.due("run(0) of the empty program", Check.run(desk, 0), "0");
        check.due("erase()", desk.erase(), 0);
        objectsAreApart(check);
        check.end();
    }

    private static void objectsAreApart(Check check) {
        DeskStack used = check.program("3k5Sa7p", "6", "7");
        DeskStack other = new DeskStack();
        check.due("depth() of another object", other.depth(), 0);
        check.due("held of another object", Check.held(other), "0 0 0 0");
        check.due("precision() of another object", other.precision(), 0);
        check.due("prints() of another object", other.prints(), 0);
        check.due("erase() of another object", other.erase(), 0);
        check.due("erase() of the used object", used.erase(), 7);
    }
}

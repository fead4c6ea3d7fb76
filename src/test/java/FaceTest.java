import java.lang.reflect.Constructor;
import java.lang.reflect.Field;
import java.lang.reflect.Method;
import java.lang.reflect.Modifier;
import java.util.Arrays;
import java.util.Set;
import java.util.TreeSet;

/** The public face: the document's members are there and no others can be seen from outside. */
final class FaceTest {
    private static final Set<String> FACE = new TreeSet<>(Arrays.asList(
        "int write(long)", "int erase()", "int run(int)", "int cost()", "int prints()", "long printed(int)",
        "int places(int)", "int depth()", "long item(int)", "int scale(int)", "int held(int)", "int precision()",
        "void reset()"));

    public static void main(String[] args) throws Exception {
        Check check = new Check();
        Class<?> face = DeskStack.class;
        check.due("public final", face.getModifiers(), Modifier.PUBLIC | Modifier.FINAL);
        Set<String> seen = new TreeSet<>();
        Set<String> hidden = new TreeSet<>();
        for (Method method : face.getDeclaredMethods()) {
            if (Modifier.isPrivate(method.getModifiers())) {
                hidden.add(method.getName());
            } else {
                check.due(method + " is public", method.getModifiers(), Modifier.PUBLIC);
                seen.add(signature(method));
            }
        }
        check.due("methods", seen.toString(), FACE.toString());
        for (String member : FACE) {
            String name = member.substring(member.indexOf(' ') + 1, member.indexOf('('));
            check.due("a private method bears the name " + name, Boolean.toString(hidden.contains(name)), "false");
        }
        for (Field field : face.getDeclaredFields()) {
            check.due(field + " is private", Boolean.toString(Modifier.isPrivate(field.getModifiers())), "true");
        }
        Constructor<?>[] constructors = face.getDeclaredConstructors();
        check.due("constructors", Arrays.toString(constructors), "[public DeskStack()]");
        check.due("exceptions of run", Arrays.toString(face.getMethod("run", int.class).getExceptionTypes()),
            "[class java.lang.IllegalArgumentException, class java.lang.IllegalStateException, "
            + "class java.lang.IndexOutOfBoundsException, class java.lang.ArithmeticException, "
            + "class java.lang.UnsupportedOperationException]");
        check.end();
    }

    private static String signature(Method method) {
        Class<?>[] taken = method.getParameterTypes();
        return method.getReturnType() + " " + method.getName() + "(" + (taken.length == 1 ? taken[0].getName() : "")
            + (taken.length > 1 ? "more than one" : "") + ")";
    }
}

import java.io.IOException;
import java.lang.reflect.Method;
import java.lang.reflect.Modifier;
import java.net.URL;
import java.net.URLClassLoader;
import java.nio.file.DirectoryStream;
import java.nio.file.Files;
import java.nio.file.Path;
import java.util.ArrayList;
import java.util.Arrays;
import java.util.List;
import java.util.Set;
import java.util.TreeSet;
import java.util.regex.Matcher;
import java.util.regex.Pattern;
import javax.tools.JavaCompiler;
import javax.tools.ToolProvider;

/** What README.md shows of the class and of its tests holds. It is read from the directory the test is run in. */
final class ReadmeTest {
    private static final Pattern ANSWERED = Pattern.compile("\\s*(\\S.*);\\s+// ([^:]+)(:.*)?");
    private static final Pattern QUOTED = Pattern.compile("`([^`]+)`");
    private static final Pattern TEST_NAME = Pattern.compile("\\w+Test\\b");

    public static void main(String[] args) throws Exception {
        Check check = new Check();
        List<String> readme = Files.readAllLines(Path.of("README.md"));
        examples(check, blocks(readme, "java"));
        tables(check, readme);
        names(check, String.join("\n", readme));
        wayToRun(check, blocks(readme, "sh"));
        check.end();
    }

    private static List<List<String>> blocks(List<String> readme, String language) {
        List<List<String>> blocks = new ArrayList<>();
        List<String> open = null;
        for (String line : readme) {
            if (open != null && line.equals("```")) {
                blocks.add(open);
                open = null;
            } else if (open != null) {
                open.add(line);
            } else if (line.equals("```" + language)) {
                open = new ArrayList<>();
            }
        }
        return blocks;
    }

    /** The examples are compiled as they stand, and each call answers what the comment behind it says. */
    private static void examples(Check check, List<List<String>> blocks) throws Exception {
        StringBuilder methods = new StringBuilder();
        StringBuilder calls = new StringBuilder();
        List<String> shown = new ArrayList<>();
        List<String> due = new ArrayList<>();
        for (List<String> block : blocks) {
            if (block.get(0).startsWith("static ")) {
                methods.append(String.join("\n", block)).append('\n');
            } else {
                calls.append("{\n");
                for (String line : block) {
                    Matcher answered = ANSWERED.matcher(line);
                    boolean isAnswered = answered.matches();
                    calls.append(isAnswered ? recorded(answered.group(1)) : line).append('\n');
                    if (isAnswered) {
                        shown.add(answered.group(1));
                        due.add(answered.group(2).trim());
                    }
                }
                calls.append("}\n");
            }
        }
        List<String> got = compiledAnswers(methods.toString(), calls.toString());
        check.due("answers in the README's examples", got.size(), due.size());
        check.due("the README has examples", Boolean.toString(due.size() > 20), "true");
        for (int i = 0; i < due.size() && i < got.size(); i++) {
            check.due("README, example " + (i + 1) + ": " + shown.get(i), got.get(i), due.get(i));
        }
    }

    private static String recorded(String call) {
        return "try { got.add(String.valueOf(" + call + ")); } catch (RuntimeException e) {"
            + " got.add(\"throws \" + e.getClass().getSimpleName()); }";
    }

    private static List<String> compiledAnswers(String methods, String calls) throws Exception {
        Path directory = Files.createTempDirectory("readme");
        Path source = directory.resolve("ReadmeExamples.java");
        Files.writeString(source, "public class ReadmeExamples {\n" + methods
            + "public static java.util.List<String> answers() {\n"
            + "java.util.List<String> got = new java.util.ArrayList<>();\n" + calls + "return got;\n}\n}\n");
        JavaCompiler compiler = ToolProvider.getSystemJavaCompiler();
        int failed = compiler.run(null, null, null, "-d", directory.toString(),
            "-cp", System.getProperty("java.class.path"), source.toString());
        List<String> answers = new ArrayList<>();
        if (failed == 0) {
            try (URLClassLoader loader = new URLClassLoader(new URL[] {directory.toUri().toURL()})) {
                Method method = loader.loadClass("ReadmeExamples").getMethod("answers");
                for (Object answer : (List<?>) method.invoke(null)) {
                    answers.add((String) answer);
                }
            }
        }
        remove(directory);
        return answers;
    }

    private static void remove(Path directory) throws IOException {
        try (DirectoryStream<Path> files = Files.newDirectoryStream(directory)) {
            for (Path file : files) {
                Files.delete(file);
            }
        }
        Files.delete(directory);
    }

    /** A table that ends in program and stack shows stacks, one that begins with exception shows faults. */
    private static void tables(Check check, List<String> readme) {
        String[] heads = {};
        int programs = 0;
        for (String line : readme) {
            if (!line.startsWith("|")) {
                heads = new String[0];
            } else if (heads.length == 0) {
                heads = cells(line);
            } else if (!line.startsWith("| ---")) {
                programs += row(check, heads, cells(line));
            }
        }
        check.due("programs in the README's tables", Boolean.toString(programs > 40), "true");
    }

    private static int row(Check check, String[] heads, String[] cells) {
        check.due("columns of " + Arrays.toString(cells), cells.length, heads.length);
        int last = cells.length - 1;
        if (heads[last].equals("stack")) {
            String program = quoted(cells[last - 1]).get(0);
            check.due("README, the stack after " + program, shownStack(program), cells[last]);
            return 1;
        }
        if (heads[0].equals("exception")) {
            List<String> programs = quoted(cells[last]);
            for (String program : programs) {
                DeskStack desk = new DeskStack();
                Check.write(desk, program);
                check.due("README, run of " + program, Check.run(desk, Check.FUEL), "throws." + quoted(cells[0]).get(0));
            }
            return programs.size();
        }
        return 0;
    }

    private static String[] cells(String line) {
        String[] parts = line.substring(1).split("\\|", -1);
        String[] cells = Arrays.copyOf(parts, parts.length - 1);
        for (int i = 0; i < cells.length; i++) {
            cells[i] = cells[i].trim();
        }
        return cells;
    }

    private static List<String> quoted(String cell) {
        List<String> quoted = new ArrayList<>();
        Matcher matcher = QUOTED.matcher(cell);
        while (matcher.find()) {
            quoted.add(matcher.group(1));
        }
        return quoted;
    }

    private static String shownStack(String program) {
        DeskStack desk = new DeskStack();
        Check.write(desk, program);
        desk.run(Check.FUEL);
        List<String> items = new ArrayList<>();
        for (int i = desk.depth() - 1; i >= 0; i--) {
            boolean isText = desk.scale(i) == -1;
            items.add(isText ? "[" + desk.item(i) + "]" : "(" + desk.item(i) + ", " + desk.scale(i) + ")");
        }
        return String.join(" ", items);
    }

    private static void names(Check check, String readme) throws IOException {
        for (Method method : DeskStack.class.getDeclaredMethods()) {
            if (Modifier.isPublic(method.getModifiers())) {
                String call = "`" + method.getName() + "(";
                check.due("README names " + call, Boolean.toString(readme.contains(call)), "true");
            }
        }
        Set<String> named = new TreeSet<>();
        Matcher matcher = TEST_NAME.matcher(readme);
        while (matcher.find()) {
            named.add(matcher.group());
        }
        check.due("the tests that the README names", named.toString(), tests().toString());
    }

    private static Set<String> tests() throws IOException {
        Set<String> tests = new TreeSet<>();
        try (DirectoryStream<Path> files = Files.newDirectoryStream(Path.of("src/test/java"), "*Test.java")) {
            for (Path file : files) {
                tests.add(file.getFileName().toString().replace(".java", ""));
            }
        }
        return tests;
    }

    /** The README's first way to run the tests is .ci/run, its second compiles as .ci/run does. */
    private static void wayToRun(Check check, List<List<String>> blocks) throws IOException {
        check.due("ways to run the tests", blocks.size(), 2);
        if (blocks.size() == 2) {
            check.due("the way to run the tests", blocks.get(0).toString(), "[.ci/run]");
            check.due(".ci/run can be run", Boolean.toString(Files.isExecutable(Path.of(".ci/run"))), "true");
            String script = Files.readString(Path.of(".ci/run"))
                .replace("\"$out/project\"", "/tmp/desk").replace("\"$main\"", "src/main/java/DeskStack.java");
            String compile = blocks.get(1).get(0);
            check.due(".ci/run does " + compile, Boolean.toString(script.contains("\n" + compile)), "true");
        }
    }
}

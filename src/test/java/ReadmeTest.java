import java.io.File;
import java.io.IOException;
import java.lang.reflect.Method;
import java.lang.reflect.Modifier;
import java.nio.file.Files;
import java.nio.file.Path;
import java.util.ArrayList;
import java.util.Arrays;
import java.util.HashMap;
import java.util.List;
import java.util.Map;
import java.util.TreeSet;
import java.util.regex.Matcher;
import java.util.regex.Pattern;

/** What README.md says of using the class and of running its tests is so. */
public final class ReadmeTest {
    private static final Pattern EXAMPLE = Pattern.compile("(?:int (\\w+) = )?x\\.(\\w+)\\((.*)\\); +// (-?\\w+): .*");
    private static final Pattern TABLE_ROW = Pattern.compile("\\| `(\\w+)\\((.*)\\)` \\|.*\\| ?(-1|0|false|) ?\\|");
    private static final Pattern TEST_ROW = Pattern.compile("- `(\\w+)`: .*");
    private static int wrong = 0;

    private static void want(boolean holds, String what) {
        if (!holds) {
            wrong++;
            System.out.println("README.md, not so: " + what);
        }
    }

    public static void main(String[] args) throws Exception {
        List<String> lines = Files.readAllLines(Path.of("README.md"));
        example(lines);
        table(lines);
        tests(lines);
        commands(lines);
        System.out.println(wrong == 0 ? "what README.md says is so" : wrong + " things are not so");
        if (wrong != 0) System.exit(1);
    }

    /** The calls of the Java block, one behind the other, each with the answer that its line tells. */
    private static void example(List<String> lines) throws ReflectiveOperationException {
        int first = lines.indexOf("```java") + 1;
        want(first > 0 && lines.get(first).equals("CutBodies x = new CutBodies();"), "a Java block that makes an object");
        CutBodies x = new CutBodies();
        Map<String, Object> names = new HashMap<>();
        int last = first + 1;
        while (last < lines.size() && !lines.get(last).equals("```")) {
            String line = lines.get(last);
            Matcher parts = EXAMPLE.matcher(line);
            boolean fits = parts.matches();
            want(fits, "a call with its answer: " + line);
            if (fits) {
                Object answer = method(parts.group(2)).invoke(x, numbers(parts.group(3), names));
                want(answer.toString().equals(parts.group(4)), line + " (answered " + answer + ")");
                if (parts.group(1) != null) names.put(parts.group(1), answer);
            }
            last++;
        }
        want(last - first > 10, "an example of some length");
    }

    private static Object[] numbers(String written, Map<String, Object> names) {
        if (written.isEmpty()) return new Object[0];
        String[] parts = written.split(", ");
        Object[] numbers = new Object[parts.length];
        for (int i = 0; i < parts.length; i++) {
            numbers[i] = names.containsKey(parts[i]) ? names.get(parts[i]) : Integer.valueOf(parts[i]);
        }
        return numbers;
    }

    private static Method method(String name) throws ReflectiveOperationException {
        for (Method method : CutBodies.class.getMethods()) {
            if (method.getName().equals(name) && method.getDeclaringClass() == CutBodies.class) return method;
        }
        throw new NoSuchMethodException(name);
    }

    /** Each method of the face has a row, with what it answers to numbers that nothing has. */
    private static void table(List<String> lines) throws ReflectiveOperationException {
        TreeSet<String> rows = new TreeSet<>();
        for (String line : lines) {
            Matcher parts = TABLE_ROW.matcher(line);
            if (!parts.matches()) continue;
            Method method = method(parts.group(1));
            rows.add(method.getName());
            Object[] far = new Object[method.getParameterCount()];
            Arrays.fill(far, 1000);
            int named = parts.group(2).isEmpty() ? 0 : parts.group(2).split(", ").length;
            want(named == far.length, "as many arguments as the method has: " + line);
            String answer = far.length == 0 ? "" : method.invoke(new CutBodies(), far).toString();
            want(answer.equals(parts.group(3)), line + " (answered " + answer + ")");
        }
        TreeSet<String> face = new TreeSet<>();
        for (Method method : CutBodies.class.getDeclaredMethods()) {
            if (Modifier.isPublic(method.getModifiers())) face.add(method.getName());
        }
        want(rows.equals(face), "a row for each method: " + rows);
    }

    /** The list of tests has all that there are and no other. */
    private static void tests(List<String> lines) {
        TreeSet<String> listed = new TreeSet<>();
        for (String line : lines) {
            Matcher parts = TEST_ROW.matcher(line);
            if (parts.matches()) listed.add(parts.group(1) + ".java");
        }
        String[] files = new File("src/test/java").list();
        want(files != null && listed.equals(new TreeSet<>(Arrays.asList(files))), "the list of tests: " + listed);
    }

    /** The commands of the chapter on tests: .ci/run can be run, and those for one test do run it. */
    private static void commands(List<String> lines) throws IOException, InterruptedException {
        List<String> commands = new ArrayList<>();
        for (int i = Math.max(0, lines.indexOf("## Tests")); i < lines.size(); i++) {
            if (lines.get(i).startsWith("    ")) commands.add(lines.get(i).trim());
        }
        want(commands.size() == 3 && commands.get(0).equals(".ci/run"), "three commands, .ci/run first: " + commands);
        want(new File(".ci/run").canExecute(), ".ci/run can be run");
        if (commands.size() != 3) return;
        String printed = printedBy(commands.get(1) + " && " + commands.get(2));
        want(printed.contains("the face is the document's"), "the commands for one test run it: " + printed);
    }

    private static String printedBy(String command) throws IOException, InterruptedException {
        Process process = new ProcessBuilder("sh", "-c", command).redirectErrorStream(true).start();
        String printed = new String(process.getInputStream().readAllBytes());
        want(process.waitFor() == 0, "ends well: " + command);
        return printed;
    }
}

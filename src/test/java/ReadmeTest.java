import java.io.IOException;
import java.lang.reflect.Method;
import java.lang.reflect.Modifier;
import java.nio.file.Files;
import java.nio.file.Path;
import java.util.ArrayList;
import java.util.Arrays;
import java.util.List;
import java.util.TreeSet;
import java.util.regex.Matcher;
import java.util.regex.Pattern;
import java.util.stream.Collectors;

/** README.md is as the class is: each row of its example answers so, and its table has each call with its refusals. */
public final class ReadmeTest {
    private static final Pattern EXAMPLE = Pattern.compile("steps\\.(\\w+)\\((.*)\\); +// (-?\\w+).*");
    private static final Pattern ROW = Pattern.compile("\\| `(\\w+)\\((.*)\\)` \\|.*\\|.*\\| ?(.*) \\|");

    private static final List<String> WRONG = new ArrayList<>();

    public static void main(String[] args) throws IOException {
        List<String> lines = Files.readAllLines(Path.of("README.md"));
        example(lines);
        table(lines);
        WRONG.forEach(System.out::println);
        System.out.println(WRONG.isEmpty() ? "README.md is as the class is" : "README.md is not as the class is");
        if (!WRONG.isEmpty()) {
            System.exit(1);
        }
    }

    private static void example(List<String> lines) {
        ReserveSteps steps = new ReserveSteps();
        int rows = 0;
        for (String line : lines) {
            Matcher row = EXAMPLE.matcher(line);
            if (row.matches()) {
                rows++;
                String arguments = row.group(2).replace(",", "").replace("true", "on").replace("false", "off");
                String got = Calls.answer(steps, row.group(1) + " " + arguments).replace("throws.", "");
                check(got.equals(row.group(3)), "the example's row answered " + got + ": " + line);
            } else {
                check(!line.startsWith("steps."), "the example's row tells no answer: " + line);
            }
        }
        check(rows > 0, "there is no example");
    }

    private static void table(List<String> lines) {
        TreeSet<String> told = new TreeSet<>();
        for (String line : lines) {
            Matcher row = ROW.matcher(line);
            if (row.matches()) {
                int arguments = row.group(2).isEmpty() ? 0 : row.group(2).split(", ").length;
                told.add(row.group(1) + " of " + arguments + ": " + row.group(3).strip());
            }
        }
        TreeSet<String> due = Arrays.stream(ReserveSteps.class.getDeclaredMethods())
            .filter(method -> Modifier.isPublic(method.getModifiers()))
            .map(ReadmeTest::told)
            .collect(Collectors.toCollection(TreeSet::new));
        due.forEach(call -> check(told.contains(call), "the table does not tell: " + call));
        told.forEach(call -> check(due.contains(call), "the table tells what is not: " + call));
    }

    private static String told(Method method) {
        String refusals = Arrays.stream(method.getExceptionTypes()).map(Class::getSimpleName).collect(Collectors.joining(", "));
        return method.getName() + " of " + method.getParameterCount() + ": " + refusals;
    }

    private static void check(boolean holds, String otherwise) {
        if (!holds) {
            WRONG.add(otherwise);
        }
    }
}

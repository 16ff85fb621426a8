import java.lang.reflect.Constructor;
import java.lang.reflect.Executable;
import java.lang.reflect.Field;
import java.lang.reflect.Method;
import java.lang.reflect.Modifier;
import java.util.ArrayList;
import java.util.Arrays;
import java.util.List;
import java.util.TreeSet;
import java.util.stream.Collectors;

/** The class has the document's public face and no other member that can be seen from outside. */
public final class FaceTest {
    private static final String FACE = """
        new()
        int piece() throws UnsupportedOperationException
        int link(int, int, boolean) throws NoSuchElementException, IllegalArgumentException
        int robot(int, boolean) throws NoSuchElementException, IllegalStateException, UnsupportedOperationException
        int ask(int, int, int, int, int) throws NoSuchElementException, IllegalArgumentException, IllegalStateException, UnsupportedOperationException
        int free(int) throws NoSuchElementException, IllegalStateException
        boolean meets(int, int) throws NoSuchElementException
        int step(int, int) throws NoSuchElementException, IllegalArgumentException, IllegalStateException
        int pull(int) throws NoSuchElementException, IllegalStateException
        int await(int, int) throws NoSuchElementException, IllegalStateException
        int next(int) throws NoSuchElementException
        int zone(int, boolean) throws NoSuchElementException, IllegalStateException
        int halt(int, boolean) throws NoSuchElementException, IllegalStateException
        boolean report(int) throws NoSuchElementException
        int pass(int) throws IllegalArgumentException
        int holder(int, int) throws NoSuchElementException, IllegalArgumentException
        int told(int, int) throws NoSuchElementException, IllegalArgumentException
        int grant(int, int) throws NoSuchElementException, IllegalArgumentException
        int count(int)
        """;

    public static void main(String[] args) {
        TreeSet<String> due = new TreeSet<>(FACE.lines().collect(Collectors.toList()));
        TreeSet<String> got = new TreeSet<>(visible());
        List<String> wrong = new ArrayList<>();
        due.stream().filter(line -> !got.contains(line)).forEach(line -> wrong.add("is missing: " + line));
        got.stream().filter(line -> !due.contains(line)).forEach(line -> wrong.add("is too much: " + line));
        if (ReserveSteps.class.getModifiers() != (Modifier.PUBLIC | Modifier.FINAL)) {
            wrong.add("the class is not public and final");
        }
        wrong.addAll(namesGivenTwice());
        wrong.forEach(System.out::println);
        System.out.println(wrong.isEmpty() ? "the face is as due" : "the face is not as due");
        if (!wrong.isEmpty()) {
            System.exit(1);
        }
    }

    private static List<String> visible() {
        List<String> lines = new ArrayList<>();
        for (Constructor<?> made : ReserveSteps.class.getDeclaredConstructors()) {
            addVisible(lines, made.getModifiers(), "new" + signature(made));
        }
        for (Method method : ReserveSteps.class.getDeclaredMethods()) {
            addVisible(lines, method.getModifiers(),
                method.getReturnType().getSimpleName() + " " + method.getName() + signature(method));
        }
        for (Field field : ReserveSteps.class.getDeclaredFields()) {
            addVisible(lines, field.getModifiers(), "field " + field.getName());
        }
        return lines;
    }

    private static void addVisible(List<String> lines, int modifiers, String line) {
        if (Modifier.isPrivate(modifiers)) {
            return;
        }
        lines.add(modifiers == Modifier.PUBLIC ? line : Modifier.toString(modifiers) + " " + line);
    }

    private static String signature(Executable member) {
        String thrown = names(member.getExceptionTypes());
        return "(" + names(member.getParameterTypes()) + ")" + (thrown.isEmpty() ? "" : " throws " + thrown);
    }

    private static String names(Class<?>[] types) {
        return Arrays.stream(types).map(Class::getSimpleName).collect(Collectors.joining(", "));
    }

    private static List<String> namesGivenTwice() {
        TreeSet<String> seen = new TreeSet<>();
        return Arrays.stream(ReserveSteps.class.getDeclaredMethods())
            .map(Method::getName)
            .filter(name -> !seen.add(name))
            .map(name -> "two methods bear one name: " + name)
            .collect(Collectors.toList());
    }
}

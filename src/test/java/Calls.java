import java.lang.reflect.InvocationTargetException;
import java.lang.reflect.Method;
import java.util.Arrays;
import java.util.HashMap;
import java.util.Map;

/** Makes calls that are written as text, such as "ask 0 1 0 10 3", on any object with the document's face. */
final class Calls {
    /** A call's method and arguments: a run is made again so often that its text is read once. */
    private static final class Read {
        final Method method;
        final Object[] arguments;

        Read(Method method, Object[] arguments) {
            this.method = method;
            this.arguments = arguments;
        }
    }

    private static final Map<Class<?>, Map<String, Method>> METHODS = new HashMap<>();
    private static final Map<Class<?>, Map<String, Read>> READ = new HashMap<>();

    private Calls() {
    }

    /** The answer as text: a number, true or false, or the bare name of the exception behind "throws.". */
    static String answer(Object target, String call) {
        Read read = READ.computeIfAbsent(target.getClass(), type -> new HashMap<>())
            .computeIfAbsent(call, text -> read(target.getClass(), text));
        try {
            return String.valueOf(read.method.invoke(target, read.arguments));
        } catch (InvocationTargetException e) {
            return "throws." + e.getCause().getClass().getSimpleName();
        } catch (IllegalAccessException e) {
            throw new AssertionError(e);
        }
    }

    /** All that the face tells of the state without changing it. */
    static String state(Object target) {
        StringBuilder state = new StringBuilder();
        for (int what = 0; what <= 6; what++) {
            state.append(answer(target, "count " + what)).append(' ');
        }
        int now = number(target, "count 4");
        for (int piece = 0; piece < number(target, "count 0"); piece++) {
            state.append("| piece ").append(piece).append(": ").append(answer(target, "next " + piece));
            for (int time = now; time <= now + 100; time++) {
                state.append(' ').append(answer(target, "holder " + piece + " " + time));
            }
        }
        for (int robot = 0; robot < number(target, "count 1"); robot++) {
            state.append("| robot ").append(robot).append(':');
            for (int what = 0; what <= 6; what++) {
                state.append(' ').append(answer(target, "told " + robot + " " + what));
            }
        }
        for (int grant = 1; grant <= number(target, "count 2"); grant++) {
            state.append("| grant ").append(grant).append(':');
            for (int what = 0; what <= 5; what++) {
                state.append(' ').append(answer(target, "grant " + grant + " " + what));
            }
        }
        return state.toString();
    }

    static int number(Object target, String call) {
        return Integer.parseInt(answer(target, call));
    }

    private static Read read(Class<?> type, String call) {
        String[] words = call.trim().split(" +");
        Method method = method(type, words[0]);
        Class<?>[] types = method.getParameterTypes();
        if (types.length != words.length - 1) {
            throw new AssertionError("the test calls with a wrong number of arguments: " + call);
        }
        Object[] arguments = new Object[types.length];
        for (int i = 0; i < types.length; i++) {
            arguments[i] = argument(types[i], words[i + 1]);
        }
        return new Read(method, arguments);
    }

    private static Object argument(Class<?> type, String word) {
        if (type == boolean.class) {
            if (!word.equals("on") && !word.equals("off")) {
                throw new AssertionError("the test writes a boolean that is neither on nor off: " + word);
            }
            return word.equals("on");
        }
        if (word.equals("least")) {
            return Integer.MIN_VALUE;
        }
        return word.equals("greatest") ? Integer.MAX_VALUE : Integer.valueOf(word);
    }

    private static Method method(Class<?> type, String name) {
        return METHODS.computeIfAbsent(type, Calls::methods).computeIfAbsent(name, missing -> {
            throw new AssertionError("no method " + missing);
        });
    }

    private static Map<String, Method> methods(Class<?> type) {
        Map<String, Method> methods = new HashMap<>();
        Arrays.stream(type.getDeclaredMethods())
            .filter(method -> !method.isSynthetic())
            .forEach(method -> methods.put(method.getName(), method));
        return methods;
    }
}

import java.lang.reflect.InvocationTargetException;
import java.lang.reflect.Method;
import java.util.ArrayList;
import java.util.HashMap;
import java.util.List;
import java.util.Map;

/**
 * Calls written as text, which can be done on the program and on the model alike. A line is "tell 0 5 0 23 -> 1": the
 * call and the answer that is due, which is throws.X for an exception X. "{-1,6}" or "{0..5}" in it stands for several
 * calls with these arguments, "3 * " ahead of it for the same call three times; "-> 1..3" is an answer that rises with
 * these. MIN and MAX are the least and the greatest int, NOW the present knowing of the branch that is asked.
 */
final class Calls {
    private static final Map<Class<?>, Map<String, Method>> METHODS = new HashMap<>();

    /** One call with the answer that is due, which is empty if none was written. */
    record Line(String call, String due) {
        boolean isRefused() {
            return due.startsWith("throws.");
        }
    }

    private Calls() {
    }

    static List<Line> lines(String text) {
        List<Line> lines = new ArrayList<>();
        for (String row : text.split("\n")) {
            if (!row.isBlank()) {
                addLines(row.trim(), lines);
            }
        }
        return lines;
    }

    private static void addLines(String row, List<Line> lines) {
        String[] parts = row.split(" -> ");
        String due = parts.length > 1 ? parts[1] : "";
        String[] repeated = parts[0].split(" \\* ");
        int times = repeated.length > 1 ? Integer.parseInt(repeated[0]) : 1;
        List<String> calls = new ArrayList<>();
        for (int i = 0; i < times; i++) {
            addSpread(repeated[repeated.length - 1], calls);
        }
        int[] ends = endsOf(due);
        if (ends != null && ends[1] - ends[0] + 1 != calls.size()) {
            throw new IllegalStateException("the answers of this line are not as many as its calls: " + row);
        }
        for (int i = 0; i < calls.size(); i++) {
            lines.add(new Line(calls.get(i), ends == null ? due : Integer.toString(ends[0] + i)));
        }
    }

    /** The ends of "a..b", or null. */
    private static int[] endsOf(String text) {
        int dots = text.indexOf("..");
        return dots < 0 ? null
                : new int[] {Integer.parseInt(text.substring(0, dots)), Integer.parseInt(text.substring(dots + 2))};
    }

    private static void addSpread(String call, List<String> calls) {
        int open = call.indexOf('{');
        if (open < 0) {
            calls.add(call);
            return;
        }
        int close = call.indexOf('}');
        for (String choice : call.substring(open + 1, close).split(",")) {
            int[] ends = endsOf(choice);
            for (int i = 0; ends != null && i <= ends[1] - ends[0]; i++) {
                addSpread(call.substring(0, open) + (ends[0] + i) + call.substring(close + 1), calls);
            }
            if (ends == null) {
                addSpread(call.substring(0, open) + choice + call.substring(close + 1), calls);
            }
        }
    }

    /** The answer of a call of this object as text, or throws.X. */
    static String answer(Object target, String call) {
        String[] words = call.split(" ");
        Method method = method(target.getClass(), words[0]);
        Object[] arguments = new Object[method.getParameterCount()];
        if (words.length - 1 != arguments.length) {
            throw new IllegalStateException("too many arguments, or too few: " + call);
        }
        for (int i = 0; i < arguments.length; i++) {
            String word = words[i + 1].equals("NOW") ? answer(target, "knowing " + words[1]) : words[i + 1];
            arguments[i] = method.getParameterTypes()[i] == boolean.class ? (Object) isTrue(word) : number(word);
        }
        try {
            return String.valueOf(method.invoke(target, arguments));
        } catch (InvocationTargetException e) {
            if (e.getCause() instanceof RuntimeException) {
                return (isOfMachine(e.getCause()) ? "machine." : "throws.") + e.getCause().getClass().getSimpleName();
            }
            throw new IllegalStateException(call, e.getCause());
        } catch (IllegalAccessException e) {
            throw new IllegalStateException(call, e);
        }
    }

    /** That of a division is the one that the machine throws under a name that the document has, too. */
    private static boolean isOfMachine(Throwable thrown) {
        return thrown instanceof ArithmeticException && "/ by zero".equals(thrown.getMessage());
    }

    private static boolean isTrue(String word) {
        if (!word.equals("true") && !word.equals("false")) {
            throw new IllegalStateException("neither true nor false: " + word);
        }
        return word.equals("true");
    }

    private static int number(String word) {
        return switch (word) {
            case "MIN" -> Integer.MIN_VALUE;
            case "MAX" -> Integer.MAX_VALUE;
            default -> word.startsWith("throws.") ? 0 : Integer.parseInt(word);
        };
    }

    private static synchronized Method method(Class<?> of, String name) {
        Map<String, Method> methods = METHODS.computeIfAbsent(of, Calls::methodsOf);
        if (!methods.containsKey(name)) {
            throw new IllegalStateException("no such call: " + name);
        }
        return methods.get(name);
    }

    private static Map<String, Method> methodsOf(Class<?> of) {
        Map<String, Method> methods = new HashMap<>();
        for (Method method : of.getDeclaredMethods()) {
            method.setAccessible(true);
            methods.put(method.getName(), method);
        }
        return methods;
    }
}

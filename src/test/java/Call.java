import java.lang.reflect.InvocationTargetException;
import java.lang.reflect.Method;
import java.lang.reflect.Modifier;
import java.util.ArrayList;
import java.util.Arrays;
import java.util.HashMap;
import java.util.List;
import java.util.Map;
import java.util.regex.Matcher;
import java.util.regex.Pattern;

/** One call, written as the document's readers would: "sell(0, 1, 2, 16)", with MIN, MAX and NOBODY for numbers. */
final class Call {
    private static final Pattern FORM = Pattern.compile("\\s*(\\w+)\\(([^()]*)\\)\\s*");
    private static final Map<String, Method> METHODS = publicMethods();

    private final Method method;
    private final Object[] args;

    private Call(String name, Object[] args) {
        this.method = METHODS.get(name);
        this.args = args;
        if (method == null || method.getParameterCount() != args.length) {
            throw new IllegalArgumentException("no such call: " + name + Arrays.toString(args));
        }
    }

    static Call to(String name, Object... args) {
        return new Call(name, args);
    }

    static Call of(String text) {
        List<Call> calls = allOf(text);
        if (calls.size() != 1) {
            throw new IllegalArgumentException("not one call: " + text);
        }
        return calls.get(0);
    }

    static List<Call> allOf(String text) {
        List<Call> calls = new ArrayList<>();
        Matcher m = FORM.matcher(text);
        int end = 0;
        while (end < text.length() && m.find(end) && m.start() == end) {
            calls.add(new Call(m.group(1), argsOf(m.group(2))));
            end = m.end();
        }
        if (end != text.length() && !text.isBlank()) {
            throw new IllegalArgumentException("not a row of calls: " + text);
        }
        return calls;
    }

    private static Object[] argsOf(String text) {
        if (text.isBlank()) {
            return new Object[0];
        }
        return Arrays.stream(text.split(",")).map(word -> argOf(word.trim())).toArray();
    }

    private static Object argOf(String word) {
        return switch (word) {
            case "true" -> true;
            case "false" -> false;
            case "MIN" -> Integer.MIN_VALUE;
            case "MAX" -> Integer.MAX_VALUE;
            case "NOBODY" -> CopyRegister.NOBODY;
            default -> Integer.parseInt(word);
        };
    }

    private static Map<String, Method> publicMethods() {
        Map<String, Method> found = new HashMap<>();
        for (Method m : CopyRegister.class.getDeclaredMethods()) {
            if (Modifier.isPublic(m.getModifiers())) {
                found.put(m.getName(), m);
            }
        }
        return found;
    }

    String name() {
        return method.getName();
    }

    int on(CopyRegister x) {
        try {
            return (Integer) method.invoke(x, args);
        } catch (InvocationTargetException | IllegalAccessException e) {
            throw new IllegalStateException(this + " threw", e);
        }
    }

    @Override
    public String toString() {
        String inner = Arrays.toString(args);
        return name() + "(" + inner.substring(1, inner.length() - 1) + ")";
    }
}

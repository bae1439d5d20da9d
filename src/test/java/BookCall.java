import java.lang.reflect.InvocationTargetException;
import java.lang.reflect.Method;
import java.lang.reflect.Modifier;
import java.util.HashMap;
import java.util.Map;

/** One call of the face, read from a text such as make(0, 256). */
final class BookCall {
    private static final Map<String, Method> FACE = face();

    private final String text;
    private final Method method;
    private final Object[] arguments;

    BookCall(String text) {
        int open = text.indexOf('(');
        if (open < 0 || !text.endsWith(")") || !FACE.containsKey(text.substring(0, open))) {
            throw new IllegalArgumentException("this is no call of the face: " + text);
        }
        this.text = text;
        method = FACE.get(text.substring(0, open));
        String inside = text.substring(open + 1, text.length() - 1).trim();
        String[] parts = inside.isEmpty() ? new String[0] : inside.split("\\s*,\\s*");
        Class<?>[] types = method.getParameterTypes();
        if (parts.length != types.length) {
            throw new IllegalArgumentException("this is not how many arguments it takes: " + text);
        }
        arguments = new Object[parts.length];
        for (int i = 0; i < parts.length; i++) {
            arguments[i] = argument(parts[i], types[i]);
        }
    }

    private static Map<String, Method> face() {
        Map<String, Method> face = new HashMap<>();
        for (Method method : Strandbook.class.getDeclaredMethods()) {
            if (Modifier.isPublic(method.getModifiers())) {
                face.put(method.getName(), method);
            }
        }
        return face;
    }

    private static Object argument(String text, Class<?> type) {
        if (type == boolean.class) {
            return text.equals("true");
        }
        if (type == long.class) {
            return text.equals("MIN") ? Long.MIN_VALUE : text.equals("MAX") ? Long.MAX_VALUE : number(text);
        }
        int number = text.equals("MIN") ? Integer.MIN_VALUE : text.equals("MAX") ? Integer.MAX_VALUE
                : Math.toIntExact(number(text));
        // No "?:" for both, which would make one type of them.
        if (type == char.class) {
            return (char) number;
        }
        return number;
    }

    private static long number(String text) {
        return text.startsWith("'") ? text.charAt(1) : Long.parseLong(text);
    }

    /** What it answers, as a text: a number, the code of a sign, true or false, or throws. and an exception's name. */
    String on(Strandbook book) {
        try {
            Object answer = method.invoke(book, arguments);
            return answer instanceof Character ? String.valueOf((int) (char) answer) : String.valueOf(answer);
        } catch (InvocationTargetException e) {
            return "throws." + e.getCause().getClass().getSimpleName();
        } catch (IllegalAccessException e) {
            throw new IllegalStateException(e);
        }
    }

    /** A due answer in the form in which on() tells it: signs by their codes, shares divided, sums summed up. */
    String dueOf(String due) {
        if (due.startsWith("'")) {
            return String.valueOf((int) due.charAt(1));
        }
        if (due.startsWith("sum(")) {
            long sum = 7;
            for (String item : Brackets.items(due.substring(4, due.length() - 1))) {
                sum = 31 * sum + number(item);
            }
            return String.valueOf(sum);
        }
        if (due.contains("/")) {
            String[] parts = due.split("/");
            int above = Integer.parseInt(parts[0]);
            int below = Integer.parseInt(parts[1]);
            return method.getReturnType() == float.class ? String.valueOf((float) above / (float) below)
                    : String.valueOf((double) above / (double) below);
        }
        return due;
    }

    @Override
    public String toString() {
        return text;
    }
}

import java.lang.reflect.InvocationTargetException;
import java.lang.reflect.Method;
import java.util.ArrayList;
import java.util.List;

/** A call of the face as a text, "setPrice a #105 max" say, so that the program and the model can be asked alike. */
record Call(String text) {
    private static final List<String> CHANGING = List.of("type", "back", "wipe", "add", "drop", "setCount", "setGap",
            "setPrice", "addRule", "keep", "lay");

    boolean changes() {
        return CHANGING.contains(name());
    }

    String name() {
        return text.split(" ")[0];
    }

    /** The calls that a text stands for: "add 0|3" is two. */
    static List<Call> all(String text) {
        List<String> found = List.of("");
        for (String part : text.trim().split(" +")) {
            List<String> longer = new ArrayList<>();
            for (String before : found) {
                for (String choice : part.split("\\|")) {
                    longer.add(before.isEmpty() ? choice : before + " " + choice);
                }
            }
            found = longer;
        }
        return found.stream().map(Call::new).toList();
    }

    /** What the call answers, or the name of what it throws. */
    String on(Object asked) {
        String[] parts = text.split(" ");
        Method method = methodOf(asked, parts);
        Object[] given = new Object[parts.length - 1];
        for (int i = 0; i < given.length; i++) {
            given[i] = method.getParameterTypes()[i] == char.class ? sign(parts[i + 1]) : (Object) number(parts[i + 1]);
        }
        try {
            return String.valueOf(method.invoke(asked, given));
        } catch (InvocationTargetException e) {
            return e.getCause().getClass().getSimpleName();
        } catch (IllegalAccessException e) {
            throw new IllegalStateException(text, e);
        }
    }

    private static Method methodOf(Object asked, String[] parts) {
        for (Method method : asked.getClass().getDeclaredMethods()) {
            if (method.getName().equals(parts[0]) && method.getParameterCount() == parts.length - 1) {
                return method;
            }
        }
        throw new IllegalStateException("no such call: " + String.join(" ", parts));
    }

    private static char sign(String text) {
        return text.length() > 1 ? (char) Integer.parseInt(text.substring(1)) : text.charAt(0);
    }

    private static int number(String text) {
        if (text.equals("min")) {
            return Integer.MIN_VALUE;
        }
        return text.equals("max") ? Integer.MAX_VALUE : Integer.parseInt(text);
    }
}

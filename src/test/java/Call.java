import java.lang.reflect.InvocationTargetException;
import java.lang.reflect.Method;
import java.lang.reflect.Modifier;
import java.util.ArrayList;
import java.util.HashMap;
import java.util.List;
import java.util.Map;
import java.util.regex.Matcher;
import java.util.regex.Pattern;

/** A call as the document writes it, "motif(2, 2, 'd') = 0"; the answer that is due may be left out. */
record Call(Method method, Object[] values, String due) {
    private static final Pattern FORM = Pattern.compile("(\\w+)\\((.*)\\)(?: = (\\S+))?", Pattern.DOTALL);
    private static final Map<String, Method> FACE = new HashMap<>();

    static {
        for (Method method : Repeatroll.class.getDeclaredMethods()) {
            if (Modifier.isPublic(method.getModifiers())) {
                FACE.put(method.getName(), method);
            }
        }
    }

    static List<Call> all(String script) {
        List<Call> calls = new ArrayList<>();
        for (String text : script.split(";")) {
            if (!text.isBlank()) {
                calls.add(of(text.strip()));
            }
        }
        return calls;
    }

    private static Call of(String text) {
        Matcher parts = FORM.matcher(text);
        if (!parts.matches() || !FACE.containsKey(parts.group(1))) {
            throw new IllegalArgumentException("this is no call: " + text);
        }
        Method method = FACE.get(parts.group(1));
        String[] written = parts.group(2).isBlank() ? new String[0] : parts.group(2).split(",");
        Class<?>[] types = method.getParameterTypes();
        if (written.length != types.length) {
            throw new IllegalArgumentException("this has other parameters: " + text);
        }
        Object[] values = new Object[types.length];
        for (int number = 0; number < types.length; number++) {
            values[number] = value(types[number], written[number].strip());
        }
        return new Call(method, values, parts.group(3));
    }

    private static Object value(Class<?> type, String written) {
        if (type == boolean.class && written.matches("true|false")) {
            return written.equals("true");
        }
        if (type == char.class && written.matches("'.'")) {
            return written.charAt(1);
        }
        return Integer.valueOf(written);
    }

    /** The answer as a text, or "throws." and the class that was thrown. */
    String on(Repeatroll house) {
        return told(answer(house));
    }

    /** The same, with a mark if something was thrown by no throw of the house; it takes its time. */
    String onWatched(Repeatroll house) {
        Object answer = answer(house);
        boolean isStrange = answer instanceof Throwable thrown && !Check.isOwn(thrown);
        return told(answer) + (isStrange ? " of the machine" : "");
    }

    private static String told(Object answer) {
        return answer instanceof Throwable thrown ? "throws." + thrown.getClass().getSimpleName() : String.valueOf(answer);
    }

    private Object answer(Repeatroll house) {
        try {
            return method.invoke(house, values);
        } catch (InvocationTargetException thrown) {
            return thrown.getCause();
        } catch (IllegalAccessException impossible) {
            throw new IllegalStateException(impossible);
        }
    }

    boolean isRefused() {
        return due != null && due.startsWith("throws.");
    }

    @Override
    public String toString() {
        StringBuilder text = new StringBuilder(method.getName());
        for (int number = 0; number < values.length; number++) {
            boolean isSign = values[number] instanceof Character;
            text.append(number == 0 ? "(" : ", ").append(isSign ? "'" : "").append(values[number]).append(isSign ? "'" : "");
        }
        return text.append(values.length == 0 ? "()" : ")").toString();
    }
}

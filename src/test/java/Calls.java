import java.lang.reflect.InvocationTargetException;
import java.lang.reflect.Method;
import java.lang.reflect.Modifier;
import java.util.ArrayList;
import java.util.Comparator;
import java.util.HashMap;
import java.util.List;
import java.util.Map;

/** Calls that are written as texts, "setHoliday 3 true", or given as methods; an exception answers as its name. */
final class Calls {
    private static final Map<Class<?>, Map<String, Method>> KNOWN = new HashMap<>();

    private Calls() {
    }

    /** The public methods of the class under test, in the order of their names. */
    static List<Method> ofTheFace() {
        List<Method> methods = new ArrayList<>();
        for (Method method : LoanServicing.class.getDeclaredMethods()) {
            if (Modifier.isPublic(method.getModifiers())) {
                methods.add(method);
            }
        }
        methods.sort(Comparator.comparing(Method::getName));
        return methods;
    }

    static String answer(Method method, Object target, Object[] arguments) throws ReflectiveOperationException {
        try {
            return String.valueOf(method.invoke(target, arguments));
        } catch (InvocationTargetException wrapped) {
            return wrapped.getCause().getClass().getName();
        }
    }

    static boolean isException(String answer) {
        return answer.startsWith("java.");
    }

    /** Makes the call that is written in the line; "type d1;p5" appends each of these characters. */
    static String answer(Object target, String line) throws ReflectiveOperationException {
        String[] words = line.split(" ");
        if (words[0].equals("type")) {
            String last = "";
            for (char character : words[1].toCharArray()) {
                last = answer(target, "append " + (int) character);
            }
            return last;
        }
        Method method = KNOWN.computeIfAbsent(target.getClass(), Calls::byName).get(words[0]);
        if (method == null) {
            throw new NoSuchMethodException(line);
        }
        return answer(method, target, arguments(method, words));
    }

    private static Map<String, Method> byName(Class<?> type) {
        Map<String, Method> methods = new HashMap<>();
        for (Method method : type.getDeclaredMethods()) {
            if (Modifier.isPublic(method.getModifiers())) {
                methods.put(method.getName(), method);
            }
        }
        return methods;
    }

    private static Object[] arguments(Method method, String[] words) {
        Class<?>[] types = method.getParameterTypes();
        if (words.length != types.length + 1) {
            throw new IllegalArgumentException(String.join(" ", words));
        }
        Object[] arguments = new Object[types.length];
        for (int i = 0; i < types.length; i++) {
            String word = words[i + 1];
            if (types[i] == boolean.class) {
                arguments[i] = Boolean.valueOf(word);
            } else if (types[i] == char.class) {
                arguments[i] = (char) Integer.parseInt(word);
            } else {
                arguments[i] = Integer.valueOf(word);
            }
        }
        return arguments;
    }

    /** Makes calls one after the other; "8*pass 1" is the call pass 1, eight times. */
    static void run(Object target, String... lines) throws ReflectiveOperationException {
        for (String line : lines) {
            int star = line.indexOf('*');
            int times = star < 0 ? 1 : Integer.parseInt(line.substring(0, star));
            for (int i = 0; i < times; i++) {
                answer(target, line.substring(star + 1));
            }
        }
    }
}

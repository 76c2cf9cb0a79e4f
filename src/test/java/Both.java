import java.lang.reflect.InvocationTargetException;
import java.lang.reflect.Method;
import java.util.ArrayList;
import java.util.HashMap;
import java.util.List;
import java.util.Map;

/** Makes each call on a new object and on the model, and tells where their answers part. */
final class Both {
    private static final Map<String, Method> FACE = methodsOf(OneSunbeam.class);
    private static final Map<String, Method> TOLD = methodsOf(Model.class);

    static int wrong = 0;
    static long calls = 0;

    private final OneSunbeam real = new OneSunbeam();
    final Model model = new Model();
    private final List<String> history = new ArrayList<>();
    boolean isParted = false;

    private static Map<String, Method> methodsOf(Class<?> type) {
        Map<String, Method> methods = new HashMap<>();
        for (Method m : type.getDeclaredMethods()) {
            if (!java.lang.reflect.Modifier.isPrivate(m.getModifiers()) && !java.lang.reflect.Modifier.isStatic(m.getModifiers())) {
                methods.put(m.getName(), m);
            }
        }
        return methods;
    }

    private static int answer(Map<String, Method> methods, Object on, String name, Object[] arguments) {
        try {
            Object answer = methods.get(name).invoke(on, arguments);
            return answer instanceof Boolean b ? (b ? 1 : 0) : (Integer) answer;
        } catch (InvocationTargetException e) {
            throw new IllegalStateException(name + java.util.Arrays.toString(arguments), e.getCause());
        } catch (IllegalAccessException e) {
            throw new IllegalStateException(e);
        }
    }

    int call(String name, Object... arguments) {
        calls++;
        int got = answer(FACE, real, name, arguments);
        int due = answer(TOLD, model, name, arguments);
        String row = name + java.util.Arrays.toString(arguments) + " -> " + got;
        history.add(row);
        if (got != due && !isParted) {
            isParted = true;
            wrong++;
            if (wrong <= 3) {
                history.forEach(System.out::println);
            }
            System.out.println("WRONG: " + row + ", the model has " + due);
        }
        return due;
    }

    void feedText(String text) {
        StringBuilder whole = new StringBuilder(text);
        while (whole.length() % 20 != 0) {
            whole.append('\0');
        }
        for (int i = 0; i < whole.length(); i += 20) {
            Object[] five = new Object[5];
            for (int k = 0; k < 5; k++) {
                int n = 0;
                for (int b = 0; b < 4; b++) {
                    n = n << 8 | whole.charAt(i + 4 * k + b) & 255;
                }
                five[k] = n;
            }
            call("feed", five);
        }
        call("end", text.length());
    }
}

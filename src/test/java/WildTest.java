import java.lang.reflect.Method;
import java.util.ArrayList;
import java.util.Comparator;
import java.util.List;
import java.util.Random;

/** Calls of the whole face in any order with any arguments: none throws, and each answers as the model does. */
public final class WildTest {
    private static final int[] EDGES = {Integer.MIN_VALUE, Integer.MIN_VALUE + 1, -1000000, -100, -3, -2, -1, 0, 1, 2, 3, 4, 5,
        6, 7, 8, 9, 10, 11, 12, 13, 15, 22, 23, 24, 25, 30, 31, 32, 63, 99, 100, 101, 380, 400, 401, 576, 999, 1000, 1001, 9999,
        10000, 99999, 100000, 9999999, 10000000, 1 << 24, Integer.MAX_VALUE - 1, Integer.MAX_VALUE};

    public static void main(String[] arguments) {
        List<Method> face = new ArrayList<>();
        for (Method m : OneSunbeam.class.getDeclaredMethods()) {
            if (java.lang.reflect.Modifier.isPublic(m.getModifiers())) face.add(m);
        }
        face.sort(Comparator.comparing(Method::getName));
        int runs = arguments.length > 0 ? Integer.parseInt(arguments[0]) : 400;
        for (int run = 0; run < runs; run++) {
            wildRun(face, new Random((run + 1) * 0x9E3779B97F4A7C15L), run % 2 == 0);
        }
        System.out.println(Both.calls + " calls, " + Both.wrong + " runs wrong");
        if (Both.wrong != 0) System.exit(1);
    }

    private static void wildRun(List<Method> face, Random random, boolean isSettled) {
        Both both = new Both();
        LawTexts texts = new LawTexts(random);
        if (isSettled) settle(both, random);
        for (int i = 0; i < 400 && !both.isParted; i++) {
            Method m = face.get(random.nextInt(face.size()));
            if (m.getName().equals("law") && random.nextBoolean()) both.feedText(texts.text());
            if (m.getName().equals("town") && isSettled && random.nextInt(20) > 0) continue;
            Object[] arguments = new Object[m.getParameterCount()];
            for (int k = 0; k < arguments.length; k++) {
                boolean isInt = m.getParameterTypes()[k] == int.class;
                arguments[k] = isInt ? (Object) pick(random) : (Object) random.nextBoolean();
            }
            both.call(m.getName(), arguments);
        }
    }

    private static int pick(Random random) {
        int kind = random.nextInt(12);
        return kind == 0 ? random.nextInt() : kind < 3 ? EDGES[random.nextInt(EDGES.length)] : random.nextInt(9) - 1;
    }

    private static void settle(Both both, Random random) {
        both.call("town", 5 + random.nextInt(4), 5 + random.nextInt(4), 0, 1, random.nextInt(20));
        for (int hour = 0; hour < 8; hour++) both.call("sun", 0, hour, random.nextInt(3), random.nextInt(5000));
        for (int i = 0; i < 6; i++) {
            both.call("mirror", random.nextInt(6), random.nextInt(6), random.nextInt(8), random.nextInt(200), random.nextInt(500), 2, i);
        }
        for (int i = 0; i < 3; i++) {
            int x = random.nextInt(4), y = random.nextInt(4);
            both.call("yard", x, y, x + 1, y + 1, 1 + random.nextInt(1000), random.nextInt(1000));
        }
        both.feedText("turn 0 hour; turn 1 slant + 1 if a < b; turn 2 3 if not [day = 1 or sun = 8]");
        both.call("law");
    }
}

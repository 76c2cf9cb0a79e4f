import java.lang.reflect.Constructor;
import java.lang.reflect.Field;
import java.lang.reflect.Method;
import java.lang.reflect.Modifier;
import java.util.Set;
import java.util.TreeSet;

/** The class has the document's face and no other. */
public final class FaceTest {
    private static final String[] FACE = {
        "boolean town(int,int,int,int,int)", "int rock(int,int,int,int,boolean)", "boolean sun(int,int,int,int)",
        "int mirror(int,int,int,int,int,int,int)", "int sets(int,int,int)", "int yard(int,int,int,int,int,int)",
        "int eyes(int,int,int)", "int month(int)", "int falls(int)", "int feed(int,int,int,int,int)", "int end(int)",
        "int law()", "int days(int,int)", "int mirrors(int,int)", "int yards(int,int)", "int cell(int,int,int)",
        "int gets(int,int)", "int light(int,int)", "int passes(int,int,int)", "int sees(int,int)", "int worth(int,int)",
        "int owned(int,int)", "int aim(int,int,int,int)", "int fair(int,int,int)", "int mends(int,int,int)",
        "int second(int,int)", "int thief(int,int)", "int dusty(int,int,int,int)", "int dark(int,int,int)",
        "int ahead(int,int,int)", "int count(int)", "int image(int)", "int back(int)"};
    private static int wrong = 0;

    private static void check(boolean isRight, String what) {
        if (!isRight) {
            wrong++;
            System.out.println("wrong: " + what);
        }
    }

    public static void main(String[] arguments) {
        Class<?> type = OneSunbeam.class;
        check(Modifier.isPublic(type.getModifiers()) && Modifier.isFinal(type.getModifiers()), "public and final");
        Set<String> seen = new TreeSet<>();
        Set<String> names = new TreeSet<>();
        for (Method m : type.getDeclaredMethods()) {
            if (Modifier.isPrivate(m.getModifiers())) continue;
            check(Modifier.isPublic(m.getModifiers()) && !Modifier.isStatic(m.getModifiers()), m + " is public");
            StringBuilder told = new StringBuilder(m.getReturnType() + " " + m.getName() + "(");
            for (Class<?> p : m.getParameterTypes()) told.append(told.toString().endsWith("(") ? "" : ",").append(p);
            seen.add(told.append(")").toString());
            names.add(m.getName());
        }
        check(seen.equals(new TreeSet<>(Set.of(FACE))), "the face is " + seen);
        for (Constructor<?> c : type.getDeclaredConstructors()) {
            check(Modifier.isPublic(c.getModifiers()) && c.getParameterCount() == 0, c + " is the constructor");
        }
        for (Field f : type.getDeclaredFields()) {
            check(Modifier.isPrivate(f.getModifiers()) || f.getName().equals("NONE"), f + " is private");
        }
        check(OneSunbeam.NONE == -1, "NONE");
        checkInside(type, names);
        System.out.println(wrong + " wrong");
        if (wrong != 0) System.exit(1);
    }

    private static void checkInside(Class<?> type, Set<String> names) {
        for (Method m : type.getDeclaredMethods()) {
            check(Modifier.isPublic(m.getModifiers()) || !names.contains(m.getName()), m + " bears a public name");
        }
        for (Class<?> inside : type.getDeclaredClasses()) {
            for (Method m : inside.getDeclaredMethods()) {
                check(!names.contains(m.getName()), m + " bears a public name");
            }
        }
    }
}

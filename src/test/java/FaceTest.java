import java.io.IOException;
import java.lang.reflect.Constructor;
import java.lang.reflect.Field;
import java.lang.reflect.Method;
import java.lang.reflect.Modifier;
import java.nio.file.Files;
import java.nio.file.Path;
import java.util.Set;
import java.util.TreeSet;
import java.util.regex.Matcher;
import java.util.regex.Pattern;

/** The class has the document's face and no other, and its text keeps to the rules that can be seen in it. */
public final class FaceTest {
    private static final String[] FACE = {
        "boolean town(int,int,int,int,int)", "int rock(int,int,int,int,boolean)", "boolean sun(int,int,int,int)",
        "int mirror(int,int,int,int,int,int,int)", "int sets(int,int,int)", "int yard(int,int,int,int,int,int)",
        "int eyes(int,int,int)", "int month(int)", "int falls(int)", "int feed(int,int,int,int,int)", "int end(int)",
        "int law()", "int days(int,int)", "int mirrors(int,int)", "int yards(int,int)", "int cell(int,int,int)",
        "int gets(int,int)", "int light(int,int)", "int passes(int,int,int)", "int sees(int,int)", "int worth(int,int)",
        "int owned(int,int)", "int aim(int,int,int,int)", "int fair(int,int,int)", "int mends(int,int,int)",
        "int second(int,int)", "int thief(int,int)", "int dusty(int,int,int,int)", "int dark(int,int,int)",
        "int ahead(int,int,int)", "int count(int)", "int image(int)", "int back(int)"};
    private static int wrong = 0;

    private static void check(boolean isRight, String what) {
        if (!isRight) {
            wrong++;
            System.out.println("wrong: " + what);
        }
    }

    public static void main(String[] arguments) throws IOException {
        Class<?> type = OneSunbeam.class;
        check(Modifier.isPublic(type.getModifiers()) && Modifier.isFinal(type.getModifiers()), "public and final");
        Set<String> seen = new TreeSet<>();
        Set<String> names = new TreeSet<>();
        for (Method m : type.getDeclaredMethods()) {
            if (Modifier.isPrivate(m.getModifiers())) continue;
            check(Modifier.isPublic(m.getModifiers()) && !Modifier.isStatic(m.getModifiers()), m + " is public");
            StringBuilder told = new StringBuilder(m.getReturnType() + " " + m.getName() + "(");
            for (Class<?> p : m.getParameterTypes()) told.append(told.toString().endsWith("(") ? "" : ",").append(p);
            seen.add(told.append(")").toString());
            names.add(m.getName());
        }
        check(seen.equals(new TreeSet<>(Set.of(FACE))), "the face is " + seen);
        for (Constructor<?> c : type.getDeclaredConstructors()) {
            check(Modifier.isPublic(c.getModifiers()) && c.getParameterCount() == 0, c + " is the constructor");
        }
        for (Field f : type.getDeclaredFields()) {
            check(Modifier.isPrivate(f.getModifiers()) || f.getName().equals("NONE"), f + " is private");
        }
        check(OneSunbeam.NONE == -1, "NONE");
        checkInside(type, names);
        checkText(Files.readString(Path.of("src/main/java/OneSunbeam.java")));
        System.out.println(wrong + " wrong");
        if (wrong != 0) System.exit(1);
    }

    private static void checkInside(Class<?> type, Set<String> names) {
        check(type.getDeclaredClasses().length <= 11, "at most twelve classes");
        for (Method m : type.getDeclaredMethods()) {
            check(Modifier.isPublic(m.getModifiers()) || !names.contains(m.getName()), m + " bears a public name");
        }
        for (Class<?> inside : type.getDeclaredClasses()) {
            check(Modifier.isStatic(inside.getModifiers()), inside + " is static");
            int fields = 0;
            for (Field f : inside.getDeclaredFields()) {
                if (!Modifier.isStatic(f.getModifiers())) fields++;
                check(!Modifier.isStatic(f.getModifiers()) || Modifier.isFinal(f.getModifiers()), f + " is final");
            }
            check(fields <= 20, inside + " has " + fields + " fields");
            for (Method m : inside.getDeclaredMethods()) {
                check(!names.contains(m.getName()), m + " bears a public name");
                check(m.getParameterCount() <= 7, m + " takes too much");
            }
        }
    }

    private static void checkText(String text) {
        String code = text.replaceAll("/\\*(?s:.*?)\\*/", "").replaceAll("//.*", "");
        Matcher banned = Pattern.compile("\\b(throw|throws|try|catch|synchronized|assert|package|instanceof|double|float)\\b|->|::").matcher(code);
        while (banned.find()) check(false, "the text has " + banned.group());
        Matcher imported = Pattern.compile("import ([\\w.*]+);").matcher(code);
        while (imported.find()) check(imported.group(1).equals("java.util.Arrays"), "it imports " + imported.group(1));
        check(text.chars().allMatch(c -> c == '\n' || c >= 32 && c < 127), "plain signs alone");
        int begun = 0;
        String[] lines = text.split("\n");
        for (int i = 0; i < lines.length; i++) {
            if (lines[i].matches("( {4}| {8})[\\w\\[\\]]+ .*\\) \\{")) begun = i;
            if (lines[i].matches(" {4}\\}| {8}\\}")) check(i - begun < 62, "a long method ends in line " + (i + 1));
            if (lines[i].matches("( {4}|).*class .*")) begun = i;
        }
    }
}

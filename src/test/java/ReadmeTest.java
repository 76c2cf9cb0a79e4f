import java.io.IOException;
import java.lang.reflect.Method;
import java.nio.file.Files;
import java.nio.file.Path;
import java.util.regex.Matcher;
import java.util.regex.Pattern;

/** What README.md says that its lines of code answer, they answer. */
public final class ReadmeTest {
    private static final Pattern CALL = Pattern.compile("x\\.(\\w+)\\(([^)]*)\\); *// (-?\\d+|true)(:.*)?");
    private static final Pattern LAW = Pattern.compile("`(turn [^`]*)`");
    private static int asked = 0;
    private static int wrong = 0;
    private static OneSunbeam x;

    public static void main(String[] arguments) throws IOException, ReflectiveOperationException {
        boolean isCode = false;
        for (String line : Files.readAllLines(Path.of("README.md"))) {
            if (line.startsWith("```")) isCode = line.equals("```java");
            else if (isCode) check(line);
            else checkLaws(line);
        }
        System.out.println(asked + " lines, " + wrong + " wrong");
        if (wrong != 0 || asked < 20) System.exit(1);
    }

    private static void check(String line) throws ReflectiveOperationException {
        if (line.equals("OneSunbeam x = new OneSunbeam();")) {
            x = new OneSunbeam();
            return;
        }
        asked++;
        Matcher call = CALL.matcher(line);
        String answer = call.matches() ? String.valueOf(answerOf(call.group(1), call.group(2))) : "nothing";
        if (!call.matches() || !answer.equals(call.group(3))) {
            wrong++;
            System.out.println("answered " + answer + ": " + line);
        }
    }

    private static void checkLaws(String line) {
        Matcher law = LAW.matcher(line);
        while (law.find()) {
            asked++;
            int answer = Bounds.law(new OneSunbeam(), law.group(1));
            if (answer != 0) {
                wrong++;
                System.out.println("answered " + answer + ": " + law.group(1));
            }
        }
    }

    private static Object answerOf(String name, String told) throws ReflectiveOperationException {
        String[] words = told.isEmpty() ? new String[0] : told.split(", ");
        Object[] arguments = new Object[words.length];
        for (int i = 0; i < words.length; i++) {
            boolean isTruth = words[i].matches("true|false");
            arguments[i] = isTruth ? (Object) words[i].equals("true") : (Object) Long.decode(words[i]).intValue();
        }
        for (Method m : OneSunbeam.class.getMethods()) {
            if (m.getName().equals(name) && m.getParameterCount() == words.length) return m.invoke(x, arguments);
        }
        return "no such call";
    }
}

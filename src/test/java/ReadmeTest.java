import java.io.IOException;
import java.lang.reflect.InvocationTargetException;
import java.lang.reflect.Method;
import java.lang.reflect.Modifier;
import java.nio.charset.StandardCharsets;
import java.nio.file.Files;
import java.nio.file.Path;
import java.util.regex.Matcher;
import java.util.regex.Pattern;

/** README.md tells of every call of the face, and its example answers what it says. */
public final class ReadmeTest {
    private static final Pattern TEXT = Pattern.compile("\"([^\"]*)\"\\.toCharArray\\(\\)");
    private static final Pattern CALL = Pattern.compile(
        "(?m)^court\\.(\\w+)\\(([-\\d, ]*)\\); *// (?:\\.\\. )?(-?\\d+|BAD|NO|FULL|NONE)\\b");

    private static int wrong = 0;

    public static void main(String[] args) throws IOException {
        String readme = Files.readString(Path.of("README.md"), StandardCharsets.UTF_8);
        everyCallIsTold(readme);
        exampleHolds(readme.substring(readme.indexOf("```java"), readme.indexOf("A text is a row")));
        System.out.println(wrong == 0 ? "the README holds" : wrong + " faults of the README");
        if (wrong != 0) {
            System.exit(1);
        }
    }

    private static void fault(String what) {
        wrong++;
        System.out.println(what);
    }

    private static void everyCallIsTold(String readme) {
        for (Method call : MouthsToJudge.class.getDeclaredMethods()) {
            boolean shown = Modifier.isPublic(call.getModifiers());
            if (shown && !readme.contains("`" + call.getName() + "(")) {
                fault("not told: " + call.getName());
            }
        }
    }

    private static void exampleHolds(String example) {
        MouthsToJudge court = new MouthsToJudge();
        Matcher text = TEXT.matcher(example);
        if (!text.find()) {
            fault("the example has no text");
            return;
        }
        for (char c : text.group(1).toCharArray()) {
            court.write(1, c);
        }
        Matcher call = CALL.matcher(example);
        int calls = 0;
        while (call.find()) {
            calls++;
            String got = String.valueOf(answer(court, call.group(1), call.group(2)));
            if (!got.equals(number(call.group(3)))) {
                fault(call.group() + " answered " + got);
            }
        }
        long told = example.lines().filter(line -> line.startsWith("court.")).count();
        if (calls != told) {
            fault(calls + " of " + told + " calls of the example could be read");
        }
    }

    private static String number(String told) {
        return switch (told) {
            case "BAD" -> "-1";
            case "NO" -> "-2";
            case "FULL" -> "-3";
            case "NONE" -> "-4";
            default -> told;
        };
    }

    private static Object answer(MouthsToJudge court, String name, String told) {
        String[] numbers = told.isBlank() ? new String[0] : told.split(", *");
        Object[] given = new Object[numbers.length];
        for (int k = 0; k < numbers.length; k++) {
            given[k] = Integer.valueOf(numbers[k]);
        }
        for (Method call : MouthsToJudge.class.getDeclaredMethods()) {
            boolean shown = Modifier.isPublic(call.getModifiers());
            if (shown && call.getName().equals(name) && call.getParameterCount() == given.length) {
                try {
                    return call.invoke(court, given);
                } catch (IllegalAccessException | InvocationTargetException thrown) {
                    return thrown;
                }
            }
        }
        return "nothing: there is no such call";
    }
}

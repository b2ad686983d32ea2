import java.io.IOException;
import java.lang.reflect.Method;
import java.lang.reflect.Modifier;
import java.nio.file.Files;
import java.nio.file.Path;
import java.util.regex.Matcher;
import java.util.regex.Pattern;

/** README.md says how to use the class: its calls answer what it says, and it names every method. */
public final class ReadmeTest {
    private static final Pattern CALL = Pattern.compile("desk\\.(\\w+)\\(([-\\d, ]*)\\); +// (-?\\d+)");

    private static final Checks checks = new Checks();

    public static void main(String[] args) throws IOException, ReflectiveOperationException {
        String readme = Files.readString(Path.of("README.md"));
        example(readme.split("```java\n")[1].split("```")[0]);
        text(readme);
        for (Method method : WindRoses.class.getDeclaredMethods()) {
            if (Modifier.isPublic(method.getModifiers())) {
                checks.due("named: " + method.getName(), readme.contains("`" + method.getName() + "`") ? 1 : 0, 1);
            }
        }
        checks.end("ReadmeTest");
    }

    private static void example(String code) throws ReflectiveOperationException {
        WindRoses desk = new WindRoses();
        String[] lines = code.split("\n");
        checks.due(lines[0], lines[0].equals("WindRoses desk = new WindRoses();") ? 1 : 0, 1);
        for (int i = 1; i < lines.length; i++) {
            Matcher call = CALL.matcher(lines[i]);
            boolean isCall = call.lookingAt();
            checks.due(lines[i] + " is a call with its answer", isCall ? 1 : 0, 1);
            if (isCall) {
                checks.due(lines[i], answer(desk, call.group(1), call.group(2)), Integer.parseInt(call.group(3)));
            }
        }
    }

    private static int answer(WindRoses desk, String name, String numbers) throws ReflectiveOperationException {
        String[] given = numbers.isEmpty() ? new String[0] : numbers.split(", ");
        Class<?>[] types = new Class<?>[given.length];
        Object[] values = new Object[given.length];
        for (int i = 0; i < given.length; i++) {
            types[i] = int.class;
            values[i] = Integer.valueOf(given[i]);
        }
        return (int) WindRoses.class.getMethod(name, types).invoke(desk, values);
    }

    private static void text(String readme) {
        String text = "0.2:4@15*3;0.2:c";
        checks.due("the text is shown", readme.contains("`" + text + "`") ? 1 : 0, 1);
        WindRoses desk = new WindRoses();
        checks.due("logAll()", checks.writeAndLog(desk, text), 4);
        checks.due("windy hours", desk.hours(0, 2, 4, 1), 3);
        checks.due("calm hours", desk.rose(0, 2, 2), 1);
    }
}

import java.io.IOException;
import java.lang.reflect.Method;
import java.nio.file.Files;
import java.nio.file.Path;
import java.util.ArrayList;
import java.util.Arrays;
import java.util.List;
import java.util.Set;
import java.util.TreeSet;
import java.util.regex.Matcher;
import java.util.regex.Pattern;

/** README.md: its example answers as its comments say, and every call of the face is told. */
final class ReadmeTest {
    private static final Due due = new Due("README.md");
    private static final Pattern CALL = Pattern.compile("desk\\.(\\w+)\\(([^)]*)\\);\\s*// (-?\\d+): .+");

    public static void main(String[] args) throws IOException {
        List<String> lines = Files.readAllLines(Path.of("README.md"));
        due.test("each call of the example answers as told", () -> exampleAnswers(lines));
        due.test("the example makes every call of the face", () -> exampleIsWhole(lines));
        due.test("the tables tell every call of the face", () -> tablesAreWhole(lines));
        due.end();
    }

    private static List<String> calls(List<String> lines) {
        List<String> calls = new ArrayList<>();
        for (String line : lines) {
            if (line.startsWith("desk.")) {
                calls.add(line);
            }
        }
        return calls;
    }

    private static void exampleAnswers(List<String> lines) {
        CrossingDesk desk = new CrossingDesk();
        for (String line : calls(lines)) {
            Matcher call = CALL.matcher(line);
            due.is("has an answer: " + line, call.matches() ? 1 : 0, 1);
            due.is(line, answer(desk, call.group(1), call.group(2)), Integer.parseInt(call.group(3)));
        }
    }

    private static int answer(CrossingDesk desk, String name, String arguments) {
        Object[] numbers = numbers(arguments);
        Class<?>[] types = new Class<?>[numbers.length];
        Arrays.fill(types, int.class);
        try {
            Method method = CrossingDesk.class.getMethod(name, types);
            return (int) method.invoke(desk, numbers);
        } catch (ReflectiveOperationException thrown) {
            throw new IllegalStateException("no such call: " + name + "(" + arguments + ")", thrown);
        }
    }

    private static Object[] numbers(String arguments) {
        if (arguments.isEmpty()) {
            return new Object[0];
        }
        String[] parts = arguments.replace("CrossingDesk.NONE", "-1").split(", ");
        return Arrays.stream(parts).map(Integer::valueOf).toArray();
    }

    private static void exampleIsWhole(List<String> lines) {
        Set<String> made = new TreeSet<>();
        for (String line : calls(lines)) {
            made.add(line.substring("desk.".length(), line.indexOf('(')));
        }
        for (String method : FaceTest.METHODS) {
            String name = method.substring(0, method.indexOf('('));
            due.is(name + " is made", made.contains(name) ? 1 : 0, 1);
        }
    }

    private static void tablesAreWhole(List<String> lines) {
        String all = String.join("\n", lines).replaceAll("int \\w+", "int");
        for (String method : FaceTest.METHODS) {
            due.is(method + " is told", all.contains("`" + method + "`") ? 1 : 0, 1);
        }
        due.is("new CrossingDesk() is told", all.contains("`new CrossingDesk()`") ? 1 : 0, 1);
    }
}

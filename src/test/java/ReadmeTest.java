import java.io.IOException;
import java.lang.reflect.Method;
import java.lang.reflect.Modifier;
import java.nio.file.DirectoryStream;
import java.nio.file.Files;
import java.nio.file.Path;
import java.util.List;
import java.util.regex.Matcher;
import java.util.regex.Pattern;

/** README.md says how to use the class and names its tests, as they stand. */
public final class ReadmeTest {
    private static final Pattern CALL = Pattern.compile("house\\.(\\w+)\\(([^)]*)\\);\\s*// (-?\\w+)\\b.*");

    public static void main(String[] args) throws IOException, ReflectiveOperationException {
        Check check = new Check();
        List<String> lines = Files.readAllLines(Path.of("README.md"));
        exampleAnswersAsItSays(check, lines);
        everyMethodIsTold(check, lines);
        everyTestIsTold(check, lines);
        check.finish();
    }

    private static void exampleAnswersAsItSays(Check check, List<String> lines)
            throws ReflectiveOperationException {
        FragmentHouse house = new FragmentHouse();
        int calls = 0;
        for (String line : lines) {
            Matcher call = CALL.matcher(line);
            if (call.matches()) {
                calls++;
                check.due(line, answer(house, call.group(1), call.group(2)), Integer.decode(call.group(3)));
            } else {
                check.holds("the answer is told in: " + line, !line.startsWith("house."));
            }
        }
        check.holds("README.md has an example", calls > 8);
    }

    private static int answer(FragmentHouse house, String name, String arguments)
            throws ReflectiveOperationException {
        String[] texts = arguments.isEmpty() ? new String[0] : arguments.split(", ");
        Object[] worths = new Object[texts.length];
        for (int k = 0; k < texts.length; k++) {
            boolean isFlag = texts[k].equals("true") || texts[k].equals("false");
            worths[k] = isFlag ? (Object) Boolean.valueOf(texts[k]) : Integer.decode(texts[k]);
        }
        for (Method method : FragmentHouse.class.getMethods()) {
            if (method.getName().equals(name) && method.getParameterCount() == worths.length) {
                return (int) method.invoke(house, worths);
            }
        }
        throw new NoSuchMethodException(name);
    }

    private static void everyMethodIsTold(Check check, List<String> lines) {
        for (Method method : FragmentHouse.class.getDeclaredMethods()) {
            if (method.getModifiers() == Modifier.PUBLIC) {
                String row = "| `" + method.getName() + "(";
                check.holds("a row tells " + method, lines.stream().anyMatch(line -> line.startsWith(row)));
            }
        }
    }

    private static void everyTestIsTold(Check check, List<String> lines) throws IOException {
        try (DirectoryStream<Path> files = Files.newDirectoryStream(Path.of("src/test/java"))) {
            for (Path file : files) {
                String name = "`" + file.getFileName().toString().replace(".java", "") + "`";
                check.holds(name + " is told", lines.stream().anyMatch(line -> line.contains(name)));
            }
        }
    }
}

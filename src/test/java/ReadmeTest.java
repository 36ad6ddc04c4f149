import java.io.IOException;
import java.lang.reflect.Method;
import java.lang.reflect.Modifier;
import java.nio.file.Files;
import java.nio.file.Path;
import java.util.List;
import java.util.regex.Matcher;
import java.util.regex.Pattern;

/** That the example of README.md is answered as it says, and that every call is told there. */
public final class ReadmeTest {
    private static final Path README = Path.of("README.md");
    private static final List<String> BELOW_0 = List.of("BAD", "NO", "FULL", "NONE");
    private static final Pattern EXAMPLE = Pattern.compile("```java\n(.*?)```", Pattern.DOTALL);
    private static final Pattern TEXT = Pattern.compile("String text = \"(.*?)\";");
    private static final Pattern CALL = Pattern.compile(
        "^looms\\.(\\w+)\\(([-0-9, ]*)\\); +// (\\d+|BAD|NO|FULL|NONE)\\b", Pattern.MULTILINE);
    private static final int CALLS_OF_EXAMPLE = 16;

    private final Due due = new Due();
    private final String readme;

    private ReadmeTest(String readme) {
        this.readme = readme;
    }

    public static void main(String[] args) throws IOException, ReflectiveOperationException {
        ReadmeTest test = new ReadmeTest(Files.readString(README));
        test.exampleIsAnsweredAsItSays();
        test.everyCallIsTold();
        test.everyAnswerBelow0IsTold();
        test.due.end();
    }

    private void exampleIsAnsweredAsItSays() throws ReflectiveOperationException {
        String example = found(EXAMPLE, readme);
        DewLooms looms = new DewLooms();
        Due.write(looms, found(TEXT, example));
        Matcher call = CALL.matcher(example);
        int calls = 0;
        while (call.find()) {
            calls++;
            due.is("README.md: " + call.group(1) + "(" + call.group(2) + ")",
                answer(looms, call.group(1), call.group(2)), number(call.group(3)));
        }
        due.is("calls of the example", calls, CALLS_OF_EXAMPLE);
    }

    private static String found(Pattern pattern, String text) {
        Matcher matcher = pattern.matcher(text);
        return matcher.find() ? matcher.group(1) : "";
    }

    private static int answer(DewLooms looms, String name, String told)
            throws ReflectiveOperationException {
        String[] words = told.isBlank() ? new String[0] : told.split(", *");
        Class<?>[] types = new Class<?>[words.length];
        Object[] numbers = new Object[words.length];
        for (int i = 0; i < words.length; i++) {
            types[i] = int.class;
            numbers[i] = Integer.valueOf(words[i]);
        }
        return (int) DewLooms.class.getMethod(name, types).invoke(looms, numbers);
    }

    private static int number(String answer) throws ReflectiveOperationException {
        return BELOW_0.contains(answer) ? DewLooms.class.getField(answer).getInt(null)
            : Integer.parseInt(answer);
    }

    /** With as many numbers as it takes. */
    private void everyCallIsTold() {
        for (Method call : DewLooms.class.getDeclaredMethods()) {
            if (Modifier.isPublic(call.getModifiers())) {
                String numbers = "\\w+, ".repeat(call.getParameterCount()).replaceAll(", $", "");
                due.isTrue("README.md tells " + call, Pattern.compile(
                    "(?m)^\\| `" + call.getName() + "\\(" + numbers + "\\)` \\|").matcher(readme)
                    .find());
            }
        }
    }

    private void everyAnswerBelow0IsTold() throws ReflectiveOperationException {
        for (String name : BELOW_0) {
            due.isTrue("README.md tells " + name,
                readme.contains("| `" + name + "` (" + number(name) + ") |"));
        }
    }
}

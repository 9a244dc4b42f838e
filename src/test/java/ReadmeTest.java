import java.io.IOException;
import java.lang.reflect.InvocationTargetException;
import java.lang.reflect.Method;
import java.lang.reflect.Modifier;
import java.nio.file.Files;
import java.nio.file.Path;
import java.util.regex.Matcher;
import java.util.regex.Pattern;

/** The examples of README.md answer what stands behind their calls, and it names every method of the class. */
public final class ReadmeTest {
    private static final Pattern EXAMPLE = Pattern.compile("```java\n(.*?)```", Pattern.DOTALL);
    private static final Pattern TYPING = Pattern.compile("for \\(char c : \"([^\"]*)\"\\.toCharArray\\(\\)\\) x\\.append\\(c\\);");
    private static final Pattern CALL = Pattern.compile("x\\.(\\w+)\\(([-0-9, ]*)\\);(?:\\s*// (\\S+?),?(?: .*)?)?");

    public static void main(String[] args) throws IOException {
        String readme = Files.readString(Path.of("README.md"));
        Matcher example = EXAMPLE.matcher(readme);
        BranchRelaxer x = null;
        while (example.find()) {
            for (String line : example.group(1).split("\n")) {
                if (line.equals("BranchRelaxer x = new BranchRelaxer();")) {
                    x = new BranchRelaxer();
                } else if (!line.isBlank()) {
                    follow(x, line);
                }
            }
        }
        for (Method method : BranchRelaxer.class.getDeclaredMethods()) {
            if (Modifier.isPublic(method.getModifiers())) {
                Expect.due("README.md names " + method.getName(), true,
                    readme.matches("(?s).*\\b" + method.getName() + "\\b.*"));
            }
        }
        Expect.end();
    }

    private static void follow(BranchRelaxer x, String line) {
        Matcher typing = TYPING.matcher(line);
        Matcher call = CALL.matcher(line);
        if (typing.matches()) {
            Expect.type(x, typing.group(1));
        } else if (call.matches()) {
            String answer = Expect.outcome(() -> answer(x, call.group(1), call.group(2)));
            Expect.due("README.md: " + line, call.group(3) == null ? answer : call.group(3), answer);
            Expect.due("README.md: refused: " + line, false, call.group(3) == null && answer.startsWith("throws."));
        } else {
            Expect.due("README.md: a line that this test can follow", true, line);
        }
    }

    private static Object answer(BranchRelaxer x, String name, String arguments) {
        String[] texts = arguments.isBlank() ? new String[0] : arguments.split(", ");
        Object[] numbers = new Object[texts.length];
        Class<?>[] types = new Class<?>[texts.length];
        for (int i = 0; i < texts.length; i++) {
            numbers[i] = Integer.valueOf(texts[i]);
            types[i] = int.class;
        }
        try {
            return BranchRelaxer.class.getMethod(name, types).invoke(x, numbers);
        } catch (InvocationTargetException e) {
            throw (RuntimeException) e.getCause();
        } catch (ReflectiveOperationException e) {
            throw new IllegalStateException("the class has no such method: " + e);
        }
    }
}

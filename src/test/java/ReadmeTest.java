import java.io.IOException;
import java.lang.reflect.Method;
import java.nio.file.DirectoryStream;
import java.nio.file.Files;
import java.nio.file.Path;
import java.util.TreeSet;
import java.util.regex.Matcher;
import java.util.regex.Pattern;

/** What README.md says: each call of its example has the answer it tells, and nothing is left out. */
public final class ReadmeTest {
    private static final Pattern EXAMPLE = Pattern.compile("```java\n(.*?)```", Pattern.DOTALL);
    private static final Pattern CALL = Pattern.compile("policy\\.(\\w+)\\(([^)]*)\\); *// (-?\\d+)\\b");

    public static void main(String[] args) throws IOException, ReflectiveOperationException {
        String readme = Files.readString(Path.of("README.md"));
        TreeSet<String> faces = new TreeSet<>();
        for (Method method : SendPolicy.class.getMethods()) {
            if (method.getDeclaringClass() == SendPolicy.class) {
                faces.add(method.getName());
                named(readme, "| `" + method.getName() + "(");
            }
        }
        String called = example(readme).toString();
        Probe.due("the example calls " + called + " of " + faces, called.equals(faces.toString()) ? 1 : 0, 1);
        try (DirectoryStream<Path> tests = Files.newDirectoryStream(Path.of("src/test/java"), "*Test.java")) {
            for (Path test : tests) {
                named(readme, "| `" + test.getFileName().toString().replace(".java", "") + "` |");
            }
        }
        Probe.finish();
    }

    private static void named(String readme, String words) {
        Probe.due("README.md has a row " + words, readme.contains("\n" + words) ? 1 : 0, 1);
    }

    /** Makes the calls of the example, and tells which methods it has used. */
    private static TreeSet<String> example(String readme) throws ReflectiveOperationException {
        TreeSet<String> called = new TreeSet<>();
        Matcher example = EXAMPLE.matcher(readme);
        Probe.due("README.md has an example", example.find() ? 1 : 0, 1);
        SendPolicy policy = new SendPolicy();
        for (String line : example.group(1).split("\n")) {
            Matcher call = CALL.matcher(line);
            if (!line.startsWith("policy.")) {
                continue;
            }
            Probe.due("an answer is told in " + line, call.find() ? 1 : 0, 1);
            called.add(call.group(1));
            Probe.due(line, answer(policy, call.group(1), call.group(2)), Integer.parseInt(call.group(3)));
        }
        return called;
    }

    private static int answer(SendPolicy policy, String name, String numbers) throws ReflectiveOperationException {
        String[] words = numbers.isEmpty() ? new String[0] : numbers.split(", ");
        Class<?>[] types = new Class<?>[words.length];
        Object[] values = new Object[words.length];
        for (int k = 0; k < words.length; k++) {
            types[k] = int.class;
            values[k] = Long.decode(words[k]).intValue();
        }
        return (Integer) SendPolicy.class.getMethod(name, types).invoke(policy, values);
    }
}

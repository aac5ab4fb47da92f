import java.lang.reflect.Method;
import java.lang.reflect.Modifier;
import java.nio.file.Files;
import java.nio.file.Path;
import java.util.Arrays;
import java.util.regex.Matcher;
import java.util.regex.Pattern;

/** What README.md shows of the class is so. */
public final class ReadmeTest {
    private static final Pattern CALL = Pattern.compile("x\\.(\\w+)\\(([-0-9, ]*)\\); *// (-?\\d+)\\b.*");
    private static final Pattern WRITTEN = Pattern.compile("for \\(char c : \"(.*)\"\\.toCharArray\\(\\)\\) x\\.write\\(c\\);");
    private static final Check check = new Check("readme");

    public static void main(String[] args) throws Exception {
        String readme = Files.readString(Path.of("README.md"));
        theExampleAnswersSo(readme);
        eachCallStandsThere(readme);
        eachTestStandsThere(readme);
        check.end();
    }

    private static void theExampleAnswersSo(String readme) throws Exception {
        String example = readme.split("```java\n")[1].split("```")[0];
        GreyByFriday x = new GreyByFriday();
        int calls = 0;
        for (String line : example.split("\n")) {
            Matcher written = WRITTEN.matcher(line);
            Matcher call = CALL.matcher(line);
            if (written.matches()) {
                Check.written(x, written.group(1));
            } else if (call.matches()) {
                check.due(line, answer(x, call.group(1), call.group(2)), Integer.parseInt(call.group(3)));
                calls++;
            } else {
                check.due(line + " is no call", line.startsWith("GreyByFriday x = new GreyByFriday();") ? 0 : 1, 0);
            }
        }
        check.due("the example has calls", calls > 10 ? 1 : 0, 1);
    }

    private static int answer(GreyByFriday x, String name, String list) throws Exception {
        String[] words = list.isEmpty() ? new String[0] : list.split(", ");
        Class<?>[] types = new Class<?>[words.length];
        Arrays.fill(types, int.class);
        Object[] numbers = new Object[words.length];
        for (int n = 0; n < words.length; n++) {
            numbers[n] = Integer.parseInt(words[n]);
        }
        return (int) GreyByFriday.class.getMethod(name, types).invoke(x, numbers);
    }

    private static void eachCallStandsThere(String readme) {
        for (Method m : GreyByFriday.class.getDeclaredMethods()) {
            if (Modifier.isPublic(m.getModifiers())) {
                Matcher row = Pattern.compile("(?m)^\\| `" + m.getName() + "\\(([^)]*)\\)` \\|").matcher(readme);
                boolean found = row.find();
                check.due(m.getName() + " stands there", found ? 1 : 0, 1);
                int numbers = !found || row.group(1).isEmpty() ? 0 : row.group(1).split(",").length;
                check.due(m.getName() + " has so many numbers", numbers, m.getParameterCount());
            }
        }
    }

    private static void eachTestStandsThere(String readme) throws Exception {
        try (var files = Files.list(Path.of("src/test/java"))) {
            for (Path file : (Iterable<Path>) files::iterator) {
                String name = file.getFileName().toString().replace(".java", "");
                if (name.endsWith("Test")) {
                    check.due(name + " stands there", readme.contains("`" + name + "`") ? 1 : 0, 1);
                }
            }
        }
    }
}

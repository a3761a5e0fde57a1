import java.lang.reflect.Field;
import java.lang.reflect.Method;
import java.lang.reflect.Modifier;
import java.nio.file.DirectoryStream;
import java.nio.file.Files;
import java.nio.file.Path;
import java.util.regex.Matcher;
import java.util.regex.Pattern;

/** README.md: its example answers as it says, and its tables name every call, constant and test. */
public final class ReadmeTest {
    private static final Pattern CALL = Pattern.compile("forest\\.(\\w+)\\(([^)]*)\\);\\s*// (-?\\d+|[A-Z_]+)\\b.*");

    public static void main(String[] args) throws Exception {
        Expect.part("README.md");
        String text = Files.readString(Path.of("README.md"));
        example(text.substring(text.indexOf("```java"), text.lastIndexOf("```")));
        tablesNameTheFace(text);
        tableNamesTheTests(text);
        codesAreToldApart();
        Expect.finish();
    }

    private static void example(String block) throws Exception {
        DynamicForest x = new DynamicForest();
        int asked = 0;
        for (String line : block.split("\n")) {
            Matcher call = CALL.matcher(line);
            if (call.find()) {
                Expect.due(line.strip(), ask(x, call.group(1), call.group(2)), number(call.group(3)));
                asked++;
            } else if (line.contains("forest.")) {
                Expect.fault("no answer told: " + line);
            }
        }
        Expect.due("the example has calls", asked > 0 ? 1 : 0, 1);
    }

    private static int ask(DynamicForest x, String name, String list) throws Exception {
        String[] words = list.isEmpty() ? new String[0] : list.split(", ");
        Object[] numbers = new Object[words.length];
        Class<?>[] types = new Class<?>[words.length];
        for (int i = 0; i < words.length; i++) {
            numbers[i] = Integer.valueOf(words[i]);
            types[i] = int.class;
        }
        return (int) DynamicForest.class.getMethod(name, types).invoke(x, numbers);
    }

    private static int number(String answer) throws Exception {
        return answer.matches("-?\\d+") ? Integer.parseInt(answer) : DynamicForest.class.getField(answer).getInt(null);
    }

    private static void tablesNameTheFace(String text) {
        for (Method method : DynamicForest.class.getDeclaredMethods()) {
            if (Modifier.isPublic(method.getModifiers())) {
                int parameters = method.getParameterCount();
                String list = parameters == 0 ? "" : "\\w+(, \\w+){" + (parameters - 1) + "}";
                named(text, "\\|[^|\n]*`" + method.getName() + "\\(" + list + "\\)`");
            }
        }
        for (Field field : DynamicForest.class.getFields()) {
            named(text, "\\| `" + field.getName() + "` \\|");
        }
    }

    private static void tableNamesTheTests(String text) throws Exception {
        try (DirectoryStream<Path> tests = Files.newDirectoryStream(Path.of("src/test/java"), "*Test.java")) {
            for (Path test : tests) {
                named(text, "\\| " + test.getFileName().toString().replace(".java", "") + " \\|");
            }
        }
    }

    private static void named(String text, String pattern) {
        Expect.due("found " + pattern, Pattern.compile("(?m)^" + pattern).matcher(text).find() ? 1 : 0, 1);
    }

    /** The page says that every code is at most NO_SUCH_VERTEX, and every other answer above it. */
    private static void codesAreToldApart() throws Exception {
        for (Field field : DynamicForest.class.getFields()) {
            Expect.due(field.getName() + " is a code", field.getInt(null) <= DynamicForest.NO_SUCH_VERTEX ? 1 : 0, 1);
        }
        DynamicForest x = Trees.chain(64);
        x.setOnPath(0, 63, -Calls.LIMIT);
        Expect.due("the least sum is none", x.pathSum(0, 63) <= DynamicForest.NO_SUCH_VERTEX ? 1 : 0, 0);
    }
}

import java.nio.file.Files;
import java.nio.file.Path;
import java.util.regex.Matcher;
import java.util.regex.Pattern;

/** The rules of LANGUAGE.md that can be seen in the text of the class. */
public final class LanguageTest {
    private static final String[] FORBIDDEN = {
        "\\b(throw|throws|try|catch|synchronized|assert|import|package|protected|native|volatile|transient)\\b",
        "\\bsuper\\b", "->", "::", "\\bObject\\b", "\\bException\\b", "\\bSystem\\.(?!arraycopy)", "\\bThread\\b",
        "\\bMath\\.random", "Exact\\b", "\\bequals\\s*\\(", "\\bhashCode\\b", "\\btoString\\b", "\\bdouble\\b", "\\bfloat\\b",
        "while\\s*\\(true\\)", "for\\s*\\(\\s*;\\s*;", "/\\s*[a-z]", "%"};

    public static void main(String[] args) throws Exception {
        Expect.part("language");
        String text = Files.readString(Path.of("src/main/java/DynamicForest.java"));
        String code = text.replaceAll("(?s)/\\*.*?\\*/", "").replaceAll("//[^\n]*", "");
        for (String pattern : FORBIDDEN) {
            Matcher found = Pattern.compile(pattern).matcher(code);
            Expect.same("forbidden " + pattern, found.find() ? found.group() : "", "");
        }
        everyNewIsInAConstructor(code);
        Expect.finish();
    }

    /** A run has one room for all its calls, so rows and objects are made by constructors alone. */
    private static void everyNewIsInAConstructor(String code) {
        boolean inConstructor = false;
        for (String line : code.split("\n")) {
            if (line.matches("\\s*(public )?(DynamicForest|Forest|Path)\\(\\) \\{")) {
                inConstructor = true;
            } else if (line.matches("\\s*}")) {
                inConstructor = false;
            }
            if (line.matches(".*\\bnew\\b.*") && !inConstructor) {
                Expect.fault("made outside of a constructor: " + line.strip());
            }
        }
    }
}

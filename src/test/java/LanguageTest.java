import java.io.IOException;
import java.nio.file.Files;
import java.nio.file.Path;
import java.util.List;
import java.util.regex.Matcher;
import java.util.regex.Pattern;

/** The rules of ../shared/LANGUAGE.md that the source's text shows. */
public final class LanguageTest {
    private static final Path SOURCE = Path.of("src/main/java/FindingAid.java");
    private static final List<String> IMPORTS = List.of("import java.util.ArrayList;", "import java.util.Arrays;",
        "import java.util.Iterator;", "import java.util.List;", "import java.util.NoSuchElementException;");
    private static final String[] FORBIDDEN = {
        "->", "::", "\\bfinally\\b", "\\bsynchronized\\b", "\\bassert\\b", "\\bpackage\\b", "Exact\\b", "\\bvolatile\\b",
        "\\bequals\\(", "\\bhashCode\\(", "\\btoString\\(", "\\bextends \\w*Exception\\b", "\\bgetMessage\\b",
        "\\bcatch\\b", "\\bprotected\\b", "\\bstatic \\{", "System\\.(?!arraycopy\\()", "Math\\.(?!max\\(|min\\(|abs\\()",
        "Arrays\\.(?!fill\\(|copyOf\\(|copyOfRange\\()", "Integer\\.(?!bitCount\\(|compare\\()", "\\bLong\\.",
        "\\[\\]\\[\\]\\[\\]", "\\bvar\\b", "while \\(true\\)", "for \\(;", "\\+ \"", "\" \\+", "@",
    };
    private static final Pattern THROW = Pattern.compile("throw new (\\w+)\\((\"[ -~]*\")?\\);");
    private static final List<String> THROWN = List.of("IllegalStateException", "IllegalArgumentException",
        "IndexOutOfBoundsException", "ArithmeticException", "UnsupportedOperationException",
        "NoSuchElementException", "RuntimeException");

    public static void main(String[] args) throws IOException {
        List<String> lines = Files.readAllLines(SOURCE);
        int methodStart = -1;
        for (int i = 0; i < lines.size(); i++) {
            String line = lines.get(i);
            String where = "line " + (i + 1) + ": " + line;
            check(line.length() <= 120, where + " is long");
            check(line.chars().allMatch(letter -> letter >= 32 && letter < 127), where + " has another sign");
            check(!line.startsWith("import ") || IMPORTS.contains(line), where + " is no import that is allowed");
            checkThrow(line, where);
            checkWords(line, where);
            if (line.matches(" {4}( {4})?[^ /*}].*[({,]") && !line.contains("class ")) {
                methodStart = methodStart < 0 ? i : methodStart;
            }
            if (line.matches(" {4}( {4})?}") && methodStart >= 0) {
                check(i - methodStart <= 60, where + " ends a long method");
                methodStart = -1;
            }
        }
        Check.end();
    }

    private static void checkThrow(String line, String where) {
        if (line.matches(".*\\bthrow\\b.*") && !line.matches(" *(\\*|//|/\\*\\*).*")) {
            Matcher matcher = THROW.matcher(line);
            check(matcher.find() && THROWN.contains(matcher.group(1)), where + " throws what is not allowed");
        }
    }

    private static void checkWords(String line, String where) {
        String code = line.replaceAll("\"[^\"]*\"", "\"\"").replaceAll("'[^']'", "' '").replaceAll("//.*", "")
            .replaceAll("^ *(\\*|/\\*\\*).*", "");
        for (String word : FORBIDDEN) {
            check(!Pattern.compile(word).matcher(code).find(), where + " has " + word);
        }
    }

    private static void check(boolean holds, String message) {
        if (!holds) {
            Check.fail(message);
        }
    }
}

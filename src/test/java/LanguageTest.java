import java.io.IOException;
import java.nio.file.Files;
import java.nio.file.Path;
import java.util.List;
import java.util.regex.Matcher;
import java.util.regex.Pattern;

/** The rules of LANGUAGE.md that can be seen in the text of the class. It runs in the project's folder. */
public final class LanguageTest {
    private static final Path SOURCE = Path.of("src/main/java/UnitContracts.java");
    private static final List<String> RULED_OUT = List.of("->", "::", "synchronized", "assert ", "finally",
        "catch", "import static", "static {", "Exact(", "System.in", "System.out", "System.err", "nanoTime",
        "Random", "Thread", "double", "float", "protected", "package ", "@", "case ", "var ", "lambda");
    private static final List<String> IMPORTS = List.of("import java.util.ArrayList;", "import java.util.List;");

    private LanguageTest() {
    }

    public static void main(String[] args) throws IOException {
        String text = Files.readString(SOURCE);
        plainSigns(text);
        String code = withoutComments(text);
        for (String word : RULED_OUT) {
            Check.yes("without '" + word + "'", !code.contains(word));
        }
        imports(code);
        throwing(code);
        Check.end();
    }

    private static void plainSigns(String text) {
        Check.yes("signs from 1 to 127", text.chars().allMatch(sign -> sign >= 1 && sign <= 127));
    }

    private static String withoutComments(String text) {
        return text.replaceAll("(?s)/\\*.*?\\*/", "").replaceAll("//[^\n]*", "");
    }

    private static void imports(String code) {
        code.lines().filter(line -> line.startsWith("import"))
            .forEach(line -> Check.yes(line + " is listed", IMPORTS.contains(line.strip())));
    }

    private static void throwing(String code) {
        Matcher matcher = Pattern.compile("\\bthrow\\b[^;]*;").matcher(code);
        Pattern due = Pattern.compile("throw new (IllegalArgument|IllegalState|IndexOutOfBounds)Exception\\(\"[^\"]*\"\\);");
        while (matcher.find()) {
            Check.yes(matcher.group() + " is written as it may be", due.matcher(matcher.group()).matches());
        }
    }
}

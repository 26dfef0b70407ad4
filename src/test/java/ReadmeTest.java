import java.io.IOException;
import java.nio.charset.StandardCharsets;
import java.nio.file.Files;
import java.nio.file.Path;
import java.util.regex.Matcher;
import java.util.regex.Pattern;

/** The example in README.md, as it stands, prints what README.md tells. It runs in the project's folder. */
public final class ReadmeTest {
    private static final Path README = Path.of("README.md");
    private static final String PROGRAM = "src/main/java/UnitContracts.java";
    private static final Path FOLDER = Path.of("build/readme");

    private ReadmeTest() {
    }

    public static void main(String[] args) throws IOException, InterruptedException {
        String text = Files.readString(README);
        String example = block(text, "java");
        String due = block(text, "text");
        Check.yes("an example in README.md, and what it prints,", !example.isEmpty() && !due.isEmpty());

        Files.createDirectories(FOLDER);
        Path file = FOLDER.resolve("Example.java");
        Files.writeString(file, example);
        printed("javac", "-d", FOLDER.toString(), PROGRAM, file.toString());
        String got = printed("java", "-cp", FOLDER.toString(), "Example");
        Check.yes("the example printed\n" + got + "\nand README.md tells\n" + due + "\nso that it", got.equals(due));
        Check.end();
    }

    private static String block(String text, String kind) {
        Matcher matcher = Pattern.compile("(?s)```" + kind + "\n(.*?)```").matcher(text);
        return matcher.find() ? matcher.group(1) : "";
    }

    private static String printed(String... command) throws IOException, InterruptedException {
        // What goes to the error stream is left out: a machine may tell its own settings there.
        Process process = new ProcessBuilder(command).redirectError(ProcessBuilder.Redirect.INHERIT).start();
        String text = new String(process.getInputStream().readAllBytes(), StandardCharsets.UTF_8);
        Check.same(command[0] + "'s exit code", process.waitFor(), 0);
        return text.replace(System.lineSeparator(), "\n");
    }
}

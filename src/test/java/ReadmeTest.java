import java.io.ByteArrayOutputStream;
import java.io.IOException;
import java.io.PrintStream;
import java.lang.reflect.Method;
import java.lang.reflect.Modifier;
import java.nio.charset.StandardCharsets;
import java.nio.file.DirectoryStream;
import java.nio.file.Files;
import java.nio.file.Path;
import java.nio.file.Paths;
import java.util.regex.Matcher;
import java.util.regex.Pattern;

/** README.md tells the truth: its program is Example, which prints what it says; no call, no test is left out. */
public final class ReadmeTest {
    private static final Check check = new Check();
    private static final Path TESTS = Paths.get("src/test/java");

    public static void main(String[] args) throws IOException {
        String readme = read(Paths.get("README.md"));
        check.about("README.md");
        check.due("its program is Example.java", block(readme, "java").equals(read(TESTS.resolve("Example.java"))), true);
        check.due("what its program prints", block(readme, "text").equals(printed()), true);
        for (Method m : BlinkerCross.class.getDeclaredMethods()) {
            if (Modifier.isPublic(m.getModifiers())) {
                check.due("it names the call " + m.getName(), readme.contains("`" + m.getName() + "("), true);
            }
        }
        try (DirectoryStream<Path> files = Files.newDirectoryStream(TESTS, "*.java")) {
            for (Path file : files) {
                String name = file.getFileName().toString().replace(".java", "");
                check.due("it names " + name, readme.contains("`" + name + "`"), true);
            }
        }
        check.end();
    }

    private static String block(String readme, String language) {
        Matcher block = Pattern.compile("(?s)\n```" + language + "\n(.*?)```\n").matcher(readme);
        return block.find() ? block.group(1) : "";
    }

    private static String printed() {
        PrintStream before = System.out;
        ByteArrayOutputStream bytes = new ByteArrayOutputStream();
        System.setOut(new PrintStream(bytes, true));
        Example.main(new String[0]);
        System.setOut(before);
        return new String(bytes.toByteArray(), StandardCharsets.ISO_8859_1).replace(System.lineSeparator(), "\n");
    }

    private static String read(Path file) throws IOException {
        return new String(Files.readAllBytes(file), StandardCharsets.ISO_8859_1);
    }
}

import java.io.ByteArrayOutputStream;
import java.io.File;
import java.io.IOException;
import java.io.PrintStream;
import java.nio.charset.StandardCharsets;
import java.nio.file.Files;
import java.nio.file.Path;
import java.util.regex.Matcher;
import java.util.regex.Pattern;

/** README.md: its example is the file that it names and prints what it says, its tests are there. */
public final class ReadmeTest {
    public static void main(String[] args) throws IOException {
        Checks c = new Checks();
        String readme = Files.readString(Path.of("README.md"));
        example(c, readme);
        tests(c, readme);
        c.end();
    }

    private static void example(Checks c, String readme) throws IOException {
        String source = Files.readString(Path.of("src/test/java/Example.java"));
        c.due("the example is the file", true, readme.contains("```java\n" + source + "```\n"));
        c.due("what it prints", true, readme.contains("```text\n" + printed() + "```\n"));
    }

    private static String printed() {
        PrintStream out = System.out;
        ByteArrayOutputStream bytes = new ByteArrayOutputStream();
        System.setOut(new PrintStream(bytes, true, StandardCharsets.UTF_8));
        try {
            Example.main(new String[0]);
        } finally {
            System.setOut(out);
        }
        return bytes.toString(StandardCharsets.UTF_8).replace("\r\n", "\n");
    }

    private static void tests(Checks c, String readme) {
        File[] files = new File("src/test/java").listFiles((dir, name) -> name.endsWith("Test.java"));
        c.due("there are tests", true, files != null && files.length > 0);
        for (File file : files) {
            String name = file.getName().replace(".java", "");
            c.due("the table has " + name, true, Pattern.compile("\\| " + name + "\\b").matcher(readme).find());
        }
        Matcher named = Pattern.compile("\\b[A-Z]\\w*Test\\b").matcher(readme);
        while (named.find()) {
            c.due("there is a " + named.group(), true, new File("src/test/java/" + named.group() + ".java").isFile());
        }
    }
}

import java.io.ByteArrayOutputStream;
import java.io.IOException;
import java.io.PrintStream;
import java.nio.charset.StandardCharsets;
import java.nio.file.Files;
import java.nio.file.Path;
import java.util.List;

/** README.md shows the program Example as it is, and what it prints. */
public final class ReadmeTest {
    public static void main(String[] args) throws IOException {
        Checks checks = new Checks();
        String readme = Files.readString(Path.of("README.md"));
        String program = Files.readString(Path.of("src/test/java/Example.java"));
        checks.sameLines("the program in README.md, ", program.lines().toList(), block(readme, "```java\n"));
        checks.sameLines("what README.md says that it prints, ", printed().lines().toList(), block(readme, "```text\n"));
        checks.finish();
    }

    /** The lines of the first block that opens so; none if there is no such block. */
    private static List<String> block(String readme, String opening) {
        int at = readme.indexOf(opening);
        int start = at + opening.length();
        int end = at < 0 ? -1 : readme.indexOf("```", start);
        return end < 0 ? List.of() : readme.substring(start, end).lines().toList();
    }

    private static String printed() {
        PrintStream screen = System.out;
        ByteArrayOutputStream bytes = new ByteArrayOutputStream();
        System.setOut(new PrintStream(bytes, true, StandardCharsets.UTF_8));
        try {
            Example.main(new String[0]);
        } finally {
            System.setOut(screen);
        }
        return bytes.toString(StandardCharsets.UTF_8);
    }
}

import java.io.ByteArrayOutputStream;
import java.io.IOException;
import java.io.PrintStream;
import java.nio.charset.StandardCharsets;
import java.nio.file.Files;
import java.nio.file.Path;
import java.util.List;

/** README.md: its example is a program that runs, prints what is told there, and its tests are those at hand. */
public final class ReadmeTest {
    private static final Path TESTS = Path.of("src", "test", "java");
    private static final Check check = new Check("ReadmeTest");

    public static void main(String[] args) throws IOException {
        String readme = Files.readString(Path.of("README.md"));
        check.about("the example");
        holds(readme, "```java\n" + withoutComment(Files.readAllLines(TESTS.resolve("Example.java"))) + "```\n");
        holds(readme, "```text\n" + printed() + "```\n");
        check.about("the answers below 0");
        holds(readme, "| " + PageRotas.INVALID_ARGUMENT + " | `INVALID_ARGUMENT` |");
        holds(readme, "| " + PageRotas.NOT_POSSIBLE + " | `NOT_POSSIBLE` |");
        holds(readme, "| " + PageRotas.LIMIT_REACHED + " | `LIMIT_REACHED` |");
        holds(readme, "| " + PageRotas.NOT_FOUND + " | `NOT_FOUND` |");
        check.about("the calls");
        for (String name : Face.NAMES) {
            holds(readme, "`" + name + "`");
        }
        check.about("the tests");
        try (var files = Files.newDirectoryStream(TESTS, "*Test.java")) {
            for (Path file : files) {
                holds(readme, "`" + file.getFileName().toString().replace(".java", "") + "`");
            }
        }
        check.end();
    }

    private static void holds(String readme, String words) {
        check.due("README.md has " + words, readme.contains(words) ? 1 : 0, 1);
    }

    /** The comment ahead of the class is for the readers of the tests. */
    private static String withoutComment(List<String> lines) {
        return String.join("\n", lines.subList(1, lines.size())) + "\n";
    }

    private static String printed() {
        PrintStream before = System.out;
        ByteArrayOutputStream bytes = new ByteArrayOutputStream();
        System.setOut(new PrintStream(bytes, true, StandardCharsets.UTF_8));
        try {
            Example.main(new String[0]);
        } finally {
            System.setOut(before);
        }
        return bytes.toString(StandardCharsets.UTF_8).replace(System.lineSeparator(), "\n");
    }
}

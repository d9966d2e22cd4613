import java.io.ByteArrayOutputStream;
import java.io.IOException;
import java.io.PrintStream;
import java.nio.charset.StandardCharsets;
import java.nio.file.Files;
import java.nio.file.Path;

/** README.md shows src/example/java/Example.java as it is, and what it prints; and it names each test. */
final class ReadmeTest {
    public static void main(String[] args) throws IOException {
        String readme = read(Path.of("README.md"));
        String example = read(Path.of("src/example/java/Example.java"));
        Checks.due("README.md shows the example", readme.contains("```java\n" + example + "```\n"), true);
        String printed = printed();
        Checks.due("README.md shows what the example prints, which is\n" + printed,
                readme.contains("```text\n" + printed + "```\n"), true);
        try (var files = Files.list(Path.of("src/test/java"))) {
            files.map(file -> file.getFileName().toString().replace(".java", "")).sorted()
                    .forEach(name -> Checks.due("README.md names " + name, readme.contains("`" + name + "`"), true));
        }
        Checks.end("ReadmeTest");
    }

    private static String read(Path path) throws IOException {
        return Files.readString(path, StandardCharsets.UTF_8);
    }

    private static String printed() {
        PrintStream before = System.out;
        ByteArrayOutputStream bytes = new ByteArrayOutputStream();
        System.setOut(new PrintStream(bytes, true, StandardCharsets.UTF_8));
        Example.main(new String[0]);
        System.setOut(before);
        return bytes.toString(StandardCharsets.UTF_8).replace(System.lineSeparator(), "\n");
    }
}

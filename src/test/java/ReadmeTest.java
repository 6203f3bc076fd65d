import java.io.ByteArrayOutputStream;
import java.io.IOException;
import java.io.PrintStream;
import java.nio.charset.StandardCharsets;
import java.nio.file.Files;
import java.nio.file.Path;
import java.util.ArrayList;
import java.util.List;

/** README.md shows Example.java as it is, and what stands there behind each line that prints is what it prints. */
public final class ReadmeTest {
    private static final Checks CHECKS = new Checks("ReadmeTest");

    public static void main(String[] args) throws IOException {
        String example = read("src/test/java/Example.java");
        CHECKS.due("README.md shows Example.java", read("README.md").contains("```java\n" + example + "```\n"));
        List<String> due = answersIn(example);
        List<String> printed = printedByExample();
        CHECKS.due("lines printed", printed.size(), due.size());
        for (int i = 0; i < Math.min(printed.size(), due.size()); i++) {
            CHECKS.dueText("line " + (i + 1) + " of the example", printed.get(i), due.get(i));
        }
        CHECKS.end();
    }

    private static String read(String file) throws IOException {
        return Files.readString(Path.of(file));
    }

    private static List<String> answersIn(String example) {
        List<String> answers = new ArrayList<>();
        for (String line : example.split("\n")) {
            if (line.contains("System.out.println(")) {
                answers.add(line.substring(line.indexOf("; // ") + "; // ".length()));
            }
        }
        return answers;
    }

    private static List<String> printedByExample() {
        PrintStream usual = System.out;
        ByteArrayOutputStream printed = new ByteArrayOutputStream();
        System.setOut(new PrintStream(printed, true, StandardCharsets.UTF_8));
        Example.main(new String[0]);
        System.setOut(usual);
        return printed.toString(StandardCharsets.UTF_8).lines().toList();
    }
}

import java.io.ByteArrayOutputStream;
import java.io.IOException;
import java.io.PrintStream;
import java.nio.file.Files;
import java.nio.file.Path;
import java.util.ArrayList;
import java.util.List;
import java.util.regex.Matcher;
import java.util.regex.Pattern;
import java.util.stream.Stream;

/**
 * README.md's example: with the path of a file, it is written there, so that it can be compiled as it stands; without
 * one, it is run, and what it prints is compared with its comments.
 */
public final class ReadmeExample {
    private static final Path README = Path.of("README.md");

    public static void main(String[] args) throws Exception {
        List<String> example = example();
        if (args.length > 0) {
            Files.write(Path.of(args[0]), example);
            return;
        }
        Due.isEqual("what the example prints", printed(), answers(example));
        Due.isEqual("how many answers README.md tells", answers(example).size() >= 20, true);
        names();
        Due.end();
    }

    /** The lines of the one block of Java. */
    private static List<String> example() throws IOException {
        List<String> lines = Files.readAllLines(README);
        int start = lines.indexOf("```java");
        Due.isEqual("how many examples there are", lines.lastIndexOf("```java") == start && start >= 0, true);
        List<String> behind = lines.subList(start + 1, lines.size());
        return behind.subList(0, behind.indexOf("```"));
    }

    /** A comment has the answer, and behind a colon what it means. */
    private static List<String> answers(List<String> example) {
        List<String> answers = new ArrayList<>();
        for (String line : example) {
            Matcher comment = Pattern.compile("println\\(.*\\); +// ([^:]+)(: .*)?").matcher(line);
            if (comment.find()) {
                answers.add(comment.group(1));
            } else {
                Due.isEqual("a line that prints without an answer: " + line, line.contains("println"), false);
            }
        }
        return answers;
    }

    private static List<String> printed() throws Exception {
        PrintStream before = System.out;
        ByteArrayOutputStream bytes = new ByteArrayOutputStream();
        System.setOut(new PrintStream(bytes, true));
        try {
            Class.forName("Example").getMethod("main", String[].class).invoke(null, (Object) new String[0]);
        } finally {
            System.setOut(before);
        }
        return List.of(bytes.toString().split("\\R"));
    }

    /** README.md says what the tests are, and where the rules and promises stand. */
    private static void names() throws IOException {
        String readme = Files.readString(README);
        for (String each : new String[] {"../shared/DOC.md", "../shared/LANGUAGE.md", "src/main/java/TextBurrow.java",
            "NOTES.md", ".ci/run"}) {
            Due.isEqual("README.md names " + each, readme.contains(each), true);
            Due.isEqual("there is " + each, Files.exists(Path.of(each)), true);
        }
        try (Stream<Path> tests = Files.list(Path.of("src/test/java"))) {
            tests.map(path -> path.getFileName().toString().replace(".java", "")).filter(name -> name.endsWith("Test"))
                    .forEach(name -> Due.isEqual("README.md names " + name, readme.contains("`" + name + "`"), true));
        }
    }
}

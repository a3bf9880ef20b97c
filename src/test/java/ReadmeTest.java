import java.io.IOException;
import java.lang.reflect.Method;
import java.lang.reflect.Modifier;
import java.nio.charset.StandardCharsets;
import java.nio.file.Files;
import java.nio.file.Path;
import java.util.ArrayList;
import java.util.Comparator;
import java.util.List;
import java.util.regex.Matcher;
import java.util.regex.Pattern;
import java.util.stream.Stream;

/** The example of README.md is compiled and run, and all calls of the face are named; from the project's root. */
public final class ReadmeTest {
    private ReadmeTest() {
    }

    public static void main(String[] args) throws IOException, InterruptedException {
        String readme = Files.readString(Path.of("README.md"));
        Matcher example = Pattern.compile("```java\n(.*?)```", Pattern.DOTALL).matcher(readme);
        Check.isTrue("there is an example", example.find());
        exampleAnswers(example.group(1));
        for (Method method : Jamhouse.class.getDeclaredMethods()) {
            if (Modifier.isPublic(method.getModifiers())) {
                Check.isTrue(method.getName() + " is told", readme.contains("`" + method.getName() + "`"));
            }
        }
        Check.close("ReadmeTest");
    }

    private static void exampleAnswers(String example) throws IOException, InterruptedException {
        Path directory = Files.createTempDirectory("readme");
        try {
            Path source = directory.resolve("Evening.java");
            Files.writeString(source, example);
            String place = directory.toString();
            Check.due("what javac says", outputOf("javac", "-encoding", "UTF-8", "-d", place,
                    "src/main/java/Jamhouse.java", source.toString()).toString(), "[]");
            List<String> printed = outputOf("java", "-cp", place, "Evening");
            List<String> due = new ArrayList<>();
            Matcher line = Pattern.compile("// prints (.*)").matcher(example);
            while (line.find()) {
                due.add(line.group(1));
            }
            Check.isTrue("the example prints", due.size() > 0);
            Check.due("what the example prints", printed.toString(), due.toString());
        } finally {
            remove(directory);
        }
    }

    private static List<String> outputOf(String... command) throws IOException, InterruptedException {
        Process process = new ProcessBuilder(command).redirectErrorStream(true).start();
        String output = new String(process.getInputStream().readAllBytes(), StandardCharsets.UTF_8);
        Check.due(command[0] + " ends with", process.waitFor(), 0);
        return output.lines().toList();
    }

    private static void remove(Path directory) throws IOException {
        try (Stream<Path> paths = Files.walk(directory)) {
            for (Path path : paths.sorted(Comparator.reverseOrder()).toList()) {
                Files.delete(path);
            }
        }
    }
}

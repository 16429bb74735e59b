import java.io.File;
import java.io.IOException;
import java.nio.charset.StandardCharsets;
import java.nio.file.Files;
import java.nio.file.Path;
import java.util.ArrayList;
import java.util.List;
import java.util.regex.Matcher;
import java.util.regex.Pattern;

/** The examples of README.md compile with the class, and print what the comments on their lines tell. */
public final class ReadmeTest {
    private static final Pattern EXAMPLE = Pattern.compile("^```java\n(.*?)^```$", Pattern.MULTILINE | Pattern.DOTALL);
    private static final Pattern CLASS = Pattern.compile("public final class (\\w+)");
    /** The answer goes up to a colon; what stands behind it is for the reader alone. */
    private static final Pattern TOLD = Pattern.compile("System\\.out\\.println\\(.*\\);\\s*// ([^:\n]+)(: .*)?$");

    private final Path room;

    private ReadmeTest(Path room) {
        this.room = room;
    }

    public static void main(String[] args) throws IOException, InterruptedException {
        String readme = Files.readString(Path.of("README.md"), StandardCharsets.UTF_8);
        Path room = Files.createTempDirectory("readme");
        try {
            int examples = 0;
            for (Matcher m = EXAMPLE.matcher(readme); m.find(); ) {
                new ReadmeTest(room).answersAsTold(m.group(1));
                examples++;
            }
            Due.holds("README.md has an example", examples > 0);
        } finally {
            clear(room);
        }
        Due.end("ReadmeTest");
    }

    private void answersAsTold(String example) throws IOException, InterruptedException {
        Matcher m = CLASS.matcher(example);
        if (!m.find()) {
            Due.holds("an example is a class that can be compiled as it stands", false);
            return;
        }
        Path file = room.resolve(m.group(1) + ".java");
        Files.writeString(file, example, StandardCharsets.UTF_8);
        String own = System.getProperty("java.class.path");
        run("javac", "-Xlint:all", "-Werror", "-cp", own, "-d", room.toString(), file.toString());
        compare(told(example), run("java", "-cp", own + File.pathSeparator + room, m.group(1)));
    }

    private static List<String> told(String example) {
        List<String> all = new ArrayList<>();
        for (String line : example.split("\n")) {
            if (line.contains("System.out.println(")) {
                Matcher m = TOLD.matcher(line);
                boolean told = m.find();
                Due.holds("an answer is told in:" + line, told);
                all.add(told ? m.group(1) : "");
            }
        }
        return all;
    }

    private static void compare(List<String> told, List<String> printed) {
        Due.is("answers", told.size(), printed.size());
        for (int k = 0; k < Math.min(told.size(), printed.size()); k++) {
            Due.same("line " + (k + 1) + " of the example", told.get(k), printed.get(k));
        }
    }

    /** The lines that a command prints; what it complains of goes where the test's own complaints go. */
    private static List<String> run(String... command) throws IOException, InterruptedException {
        Process p = new ProcessBuilder(command).redirectError(ProcessBuilder.Redirect.INHERIT).start();
        List<String> lines = new String(p.getInputStream().readAllBytes(), StandardCharsets.UTF_8).lines().toList();
        Due.is("exit code of " + command[0], 0, p.waitFor());
        return lines;
    }

    private static void clear(Path room) throws IOException {
        for (File file : room.toFile().listFiles()) {
            Files.delete(file.toPath());
        }
        Files.delete(room);
    }
}

import java.io.File;
import java.io.IOException;
import java.lang.reflect.Method;
import java.lang.reflect.Modifier;
import java.nio.file.Files;
import java.nio.file.Path;
import java.util.ArrayList;
import java.util.List;
import java.util.regex.Matcher;
import java.util.regex.Pattern;

/** The example of README.md runs as it is written and prints what it says; every call is named there. */
public final class ReadmeTest {
    private ReadmeTest() {
    }

    private static List<String> find(String form, String text) {
        List<String> found = new ArrayList<>();
        Matcher matcher = Pattern.compile(form).matcher(text);
        while (matcher.find()) {
            found.add(matcher.group(1));
        }
        return found;
    }

    /** A new folder with what the commands of README.md want. */
    private static Path folder(String example) throws IOException {
        Path folder = Files.createTempDirectory("readme");
        Path sources = Files.createDirectories(folder.resolve("src/main/java"));
        Files.copy(Path.of("src/main/java/Prereqs.java"), sources.resolve("Prereqs.java"));
        Files.writeString(folder.resolve("Example.java"), example);
        return folder;
    }

    private static void delete(File file) {
        File[] inside = file.listFiles();
        for (int at = 0; inside != null && at < inside.length; at++) {
            delete(inside[at]);
        }
        file.delete();
    }

    private static List<String> run(String command, Path folder) throws IOException, InterruptedException {
        ProcessBuilder builder = new ProcessBuilder(command.split(" ")).directory(folder.toFile());
        Process process = builder.redirectErrorStream(true).start();
        String printed = new String(process.getInputStream().readAllBytes());
        Check.due(command + " ends with " + printed, process.waitFor(), 0);
        return printed.lines().toList();
    }

    private static void example(String readme) throws IOException, InterruptedException {
        List<String> examples = find("(?s)```java\n(.*?)```", readme);
        Check.due("examples", examples.size(), 1);
        List<String> commands = find("(?m)^    (javac? .*\\bExample\\b.*)$", readme);
        Check.due("commands", commands.size(), 2);
        Path folder = folder(examples.get(0));
        try {
            List<String> printed = List.of();
            for (String command : commands) {
                printed = run(command, folder);
            }
            Check.due("what the example prints", printed, find("// prints (\\w+)", examples.get(0)));
        } finally {
            delete(folder.toFile());
        }
    }

    private static void namesAllCalls(String readme) {
        for (Method method : Prereqs.class.getDeclaredMethods()) {
            if (Modifier.isPublic(method.getModifiers())) {
                Check.due(method.getName() + " is named", readme.contains("`" + method.getName() + "`"), true);
            }
        }
    }

    public static void main(String[] arguments) throws IOException, InterruptedException {
        String readme = Files.readString(Path.of("README.md"));
        example(readme);
        namesAllCalls(readme);
        Check.end();
    }
}

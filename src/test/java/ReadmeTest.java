import java.io.IOException;
import java.lang.reflect.Method;
import java.lang.reflect.Modifier;
import java.nio.file.Files;
import java.nio.file.Path;
import java.util.ArrayList;
import java.util.List;
import java.util.regex.Matcher;
import java.util.regex.Pattern;
import java.util.stream.Stream;
import javax.tools.ToolProvider;

/** README.md: its program prints what the page says behind each println, and the page names each call and each test. */
public final class ReadmeTest {
    private static final Check CHECK = new Check();
    private static final Pattern PROGRAM = Pattern.compile("(?s)```java\n(.*?)```");
    private static final Pattern PRINTED = Pattern.compile("println\\(.*\\); *// ([^:\n]*)");

    public static void main(String[] args) throws IOException, InterruptedException {
        String page = Files.readString(Path.of("README.md"));
        Matcher program = PROGRAM.matcher(page);
        CHECK.due("a program", program.find() ? "stands" : "is wanting", "stands");
        CHECK.dueSame("what it prints", printedBy(program.group(1)), saidIn(program.group(1)));
        namesEachCall(page);
        namesEachTest(page);
        CHECK.end();
    }

    private static String saidIn(String program) {
        List<String> lines = new ArrayList<>();
        Matcher printed = PRINTED.matcher(program);
        while (printed.find()) {
            lines.add(printed.group(1));
        }
        return String.join("\n", lines);
    }

    private static String printedBy(String program) throws IOException, InterruptedException {
        Path folder = Files.createTempDirectory("readme");
        Path file = Files.writeString(folder.resolve("Example.java"), program);
        int code = ToolProvider.getSystemJavaCompiler().run(null, null, null,
                "-d", folder.toString(), "src/main/java/PachinkoReels.java", file.toString());
        CHECK.due("javac's exit code", code, 0);
        String java = Path.of(System.getProperty("java.home"), "bin", "java").toString();
        Process run = new ProcessBuilder(java, "-cp", folder.toString(), "Example").redirectErrorStream(true).start();
        String printed = new String(run.getInputStream().readAllBytes());
        CHECK.due("the program's exit code", run.waitFor(), 0);
        remove(folder);
        return printed.strip().replace("\r", "");
    }

    private static void remove(Path folder) throws IOException {
        try (Stream<Path> files = Files.list(folder)) {
            for (Path file : files.toList()) {
                Files.delete(file);
            }
        }
        Files.delete(folder);
    }

    private static void namesEachCall(String page) {
        for (Method method : PachinkoReels.class.getDeclaredMethods()) {
            if (Modifier.isPublic(method.getModifiers())) {
                dueNamed(page, "`" + method.getName() + "(");
            }
        }
    }

    private static void namesEachTest(String page) throws IOException {
        try (Stream<Path> files = Files.list(Path.of("src/test/java"))) {
            for (Path file : files.toList()) {
                String name = file.getFileName().toString().replace(".java", "");
                if (name.endsWith("Test") && !name.startsWith("Promise")) {
                    dueNamed(page, "`" + name + "`");
                }
            }
        }
    }

    private static void dueNamed(String page, String words) {
        CHECK.due(words, page.contains(words) ? "is named" : "is not named", "is named");
    }
}

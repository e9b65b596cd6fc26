import java.io.IOException;
import java.lang.reflect.Method;
import java.lang.reflect.Modifier;
import java.nio.charset.StandardCharsets;
import java.nio.file.DirectoryStream;
import java.nio.file.Files;
import java.nio.file.Path;
import java.util.regex.Matcher;
import java.util.regex.Pattern;

/** README.md: its program prints what it says, and it has every call and every test. Runs from the project's root. */
public final class ReadmeTest {
    private static final Due DUE = new Due();

    public static void main(String[] args) throws IOException, InterruptedException {
        String page = Files.readString(Path.of("README.md"));
        Path made = Files.createTempDirectory("readme");
        try {
            DUE.sameText("the program", printed(made, block(page, "java")), block(page, "text"));
        } finally {
            clear(made);
        }
        calls(page);
        tests(page);
        DUE.end();
    }

    private static String block(String page, String kind) {
        Matcher matcher = Pattern.compile("(?s)```" + kind + "\n(.*?)```").matcher(page);
        return matcher.find() ? matcher.group(1) : "no block of " + kind;
    }

    private static String printed(Path made, String program) throws IOException, InterruptedException {
        Path source = made.resolve("Example.java");
        Files.writeString(source, program);
        String problem = run("javac", "-d", made.toString(), "src/main/java/PartedNet.java", source.toString());
        return problem.isEmpty() ? run("java", "-cp", made.toString(), "Example") : problem;
    }

    private static String run(String... command) throws IOException, InterruptedException {
        Process process = new ProcessBuilder(command).redirectError(ProcessBuilder.Redirect.INHERIT).start();
        process.getOutputStream().close();
        String output = new String(process.getInputStream().readAllBytes(), StandardCharsets.UTF_8);
        int code = process.waitFor();
        return code == 0 ? output : output + command[0] + " ended with " + code;
    }

    private static void clear(Path made) throws IOException {
        try (DirectoryStream<Path> files = Files.newDirectoryStream(made)) {
            for (Path file : files) {
                Files.delete(file);
            }
        }
        Files.delete(made);
    }

    /** Each has a row that begins with it, with as many arguments as it takes. */
    private static void calls(String page) {
        for (Method method : PartedNet.class.getDeclaredMethods()) {
            if (Modifier.isPublic(method.getModifiers())) {
                Matcher row = Pattern.compile("(?m)^\\| `" + method.getName() + "\\(([^)]*)\\)` \\|").matcher(page);
                boolean found = row.find();
                DUE.holds("a row for " + method.getName(), found);
                if (found) {
                    int names = row.group(1).isEmpty() ? 0 : row.group(1).split(", ").length;
                    DUE.same("arguments of " + method.getName(), names, method.getParameterCount());
                }
            }
        }
    }

    private static void tests(String page) throws IOException {
        try (DirectoryStream<Path> files = Files.newDirectoryStream(Path.of("src/test/java"), "*Test.java")) {
            for (Path file : files) {
                String name = file.getFileName().toString().replace(".java", "");
                DUE.holds("a row for " + name, page.contains("\n| " + name + " |"));
            }
        }
    }
}

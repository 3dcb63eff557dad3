import java.io.File;
import java.io.IOException;
import java.lang.reflect.Method;
import java.lang.reflect.Modifier;
import java.nio.file.Files;
import java.nio.file.Path;
import java.util.regex.Matcher;
import java.util.regex.Pattern;

/** The example of README.md: each line answers what its comment says, and no call of the face is left out. */
public final class ReadmeTest {
    private static final Path README = Path.of("README.md");
    private static final Path BUILT = Path.of("build/readme");
    private static final String NAME = "ReadmeExample";
    private static final Pattern ANSWERED =
        Pattern.compile("(?:int (\\w+) = )?(hall\\.\\w+\\(.*\\)); +// (-?\\d+|true|false)(?::.*)?");

    private ReadmeTest() {
    }

    public static void main(String[] args) throws IOException, InterruptedException {
        String example = example();
        namesEachCall(example);
        run(withChecks(example));
        Check.end();
    }

    private static String example() throws IOException {
        Matcher found = Pattern.compile("```java\n(.*?)```", Pattern.DOTALL).matcher(Files.readString(README));
        Check.due("there is an example", found.find(), true);
        return found.group(1);
    }

    private static void namesEachCall(String example) {
        for (Method method : Grievancehall.class.getDeclaredMethods()) {
            if (Modifier.isPublic(method.getModifiers())) {
                String call = "hall." + method.getName() + "(";
                Check.due("the example has " + call, example.contains(call), true);
            }
        }
    }

    /** A line with an answer in its comment becomes a check of it; the other lines stay as they are. */
    private static String withChecks(String example) {
        StringBuilder body = new StringBuilder();
        for (String line : example.split("\n")) {
            Matcher answered = ANSWERED.matcher(line);
            if (!answered.matches()) {
                Check.due("has an answer that is not checked: " + line, line.matches(".*; *//.*"), false);
                body.append(line).append('\n');
                continue;
            }
            String value = answered.group(2);
            if (answered.group(1) != null) {
                body.append("int ").append(answered.group(1)).append(" = ").append(value).append(";\n");
                value = answered.group(1);
            }
            String told = "README.md: " + answered.group(2);
            body.append("Check.due(\"").append(told.replace("\"", "\\\"")).append("\", ").append(value).append(", ")
                .append(answered.group(3)).append(");\n");
        }
        return "public final class " + NAME + " {\npublic static void main(String[] args) {\n" + body
            + "Check.end();\n}\n}\n";
    }

    /** The example is a program of its own: it tells its wrong answers, and ends with 1 if there are some. */
    private static void run(String source) throws IOException, InterruptedException {
        Files.createDirectories(BUILT);
        Path file = BUILT.resolve(NAME + ".java");
        Files.writeString(file, source);
        String classes = System.getProperty("java.class.path");
        Check.due("javac ends with", exitOf("javac", "-d", BUILT.toString(), "-cp", classes, file.toString()), 0);
        Check.due("java ends with", exitOf("java", "-cp", BUILT + File.pathSeparator + classes, NAME), 0);
    }

    private static int exitOf(String... command) throws IOException, InterruptedException {
        return new ProcessBuilder(command).inheritIO().start().waitFor();
    }
}

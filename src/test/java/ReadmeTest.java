import java.io.IOException;
import java.net.URL;
import java.net.URLClassLoader;
import java.nio.file.Files;
import java.nio.file.Path;
import java.util.ArrayList;
import java.util.List;
import java.util.regex.Matcher;
import java.util.regex.Pattern;
import javax.tools.ToolProvider;

/** The lines that README.md shows are a program, and answer what stands behind them; run from the project's folder. */
public final class ReadmeTest {
    private static final Pattern ANSWER = Pattern.compile("\\w+ (\\w+) = .*;  // '?(-?\\d+|true|false|\\w(?='))\\b.*");
    private static final int LEAST_ANSWERS = 15;
    private static final Check CHECK = new Check();

    private final List<String> lines = new ArrayList<>();
    private final List<String> answers = new ArrayList<>();

    public static void main(String[] args) throws IOException, ReflectiveOperationException {
        ReadmeTest test = new ReadmeTest();
        test.read();
        CHECK.due("answers were found", test.answers.size() >= LEAST_ANSWERS, true);
        CHECK.due("what README.md shows", test.run(), String.join("\n", test.answers));
        CHECK.finish();
    }

    private void read() throws IOException {
        boolean shown = false;
        for (String line : Files.readAllLines(Path.of("README.md"))) {
            if (line.startsWith("```")) {
                shown = line.equals("```java");
            } else if (shown) {
                take(line);
            }
        }
    }

    private void take(String line) {
        lines.add(line);
        Matcher matcher = ANSWER.matcher(line);
        if (matcher.matches()) {
            lines.add("answers.add(\"" + matcher.group(1) + " \" + " + matcher.group(1) + ");");
            answers.add(matcher.group(1) + " " + matcher.group(2));
        }
    }

    private String run() throws IOException, ReflectiveOperationException {
        Path folder = Files.createDirectories(Path.of("build", "readme"));
        Path program = folder.resolve("Shown.java");
        Files.writeString(program, "public class Shown { public static String run() {\n"
                + "java.util.List<String> answers = new java.util.ArrayList<>();\n"
                + String.join("\n", lines) + "\nreturn String.join(\"\\n\", answers); } }\n");
        int wrong = ToolProvider.getSystemJavaCompiler().run(null, null, null, "-cp",
                System.getProperty("java.class.path"), "-d", folder.toString(), program.toString());
        if (wrong != 0) {
            return "lines that do not compile";
        }
        try (URLClassLoader loader = new URLClassLoader(new URL[] {folder.toUri().toURL()})) {
            return (String) loader.loadClass("Shown").getMethod("run").invoke(null);
        }
    }
}

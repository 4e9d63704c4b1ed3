import java.io.IOException;
import java.nio.file.Files;
import java.nio.file.Path;
import java.util.List;
import java.util.Set;
import java.util.TreeSet;
import java.util.regex.Matcher;
import java.util.regex.Pattern;

/** What can be seen of LANGUAGE.md's rules in the lines of the program; run from the project's folder. */
public final class RulesTest {
    private static final Path PROGRAM = Path.of("src/main/java/DraftLeague.java");
    private static final Set<String> IMPORTS = Set.of("java.util.Arrays", "java.util.NoSuchElementException");
    private static final Set<String> LIBRARY = Set.of("Arrays.fill", "System.arraycopy", "Math.min", "Math.max",
        "Math.abs", "Integer.bitCount");
    private static final Set<String> EXCEPTIONS = Set.of("IllegalStateException", "IllegalArgumentException",
        "IndexOutOfBoundsException", "ArithmeticException", "UnsupportedOperationException",
        "NoSuchElementException", "RuntimeException");
    private static final List<String> NEVER = List.of("->", "::", "\\btry\\b", "\\bcatch\\b", "\\bfinally\\b",
        "\\bsynchronized\\b", "\\bassert\\b", "\\bprotected\\b", "\\bstatic \\{", "\\bpackage\\b", "\\bvar\\b");
    private static final int LONGEST_METHOD = 60;
    private static final int MOST_CLASSES = 12;
    private static final int MOST_FIELDS = 20;
    private static final int MOST_PARAMETERS = 7;

    private static final Check CHECK = new Check();

    public static void main(String[] args) throws IOException {
        String whole = Files.readString(PROGRAM);
        for (int index = 0; index < whole.length(); index++) {
            CHECK.due("rule 4, the sign at " + index, whole.charAt(index) < 128, true);
        }
        String code = withoutTexts(whole);
        library(code);
        exceptions(whole);
        for (String word : NEVER) {
            CHECK.due("rules 2 and 6, " + word, Pattern.compile(word).matcher(code).find(), false);
        }
        statics(code);
        sizes(code);
        fields();
        CHECK.finish();
    }

    /** Comments and texts say what they like. */
    private static String withoutTexts(String whole) {
        String code = whole.replaceAll("(?s)/\\*.*?\\*/", "");
        return code.replaceAll("//[^\n]*", "").replaceAll("\"[^\"]*\"", "\"\"").replaceAll("'[^']*'", "'x'");
    }

    private static Set<String> all(String code, String pattern) {
        Set<String> found = new TreeSet<>();
        Matcher matcher = Pattern.compile(pattern).matcher(code);
        while (matcher.find()) {
            found.add(matcher.group(1));
        }
        return found;
    }

    private static void library(String code) {
        Set<String> others = all(code, "import ([\\w.*]+);");
        others.removeAll(IMPORTS);
        CHECK.due("rule 4, imports", String.join(" ", others), "");
        Set<String> calls = all(code, "\\b([A-Z]\\w*\\.\\w+)\\(");
        calls.removeAll(LIBRARY);
        calls.remove("Filling.placesOf");
        CHECK.due("rule 4, calls", String.join(" ", calls), "");
    }

    private static void exceptions(String whole) {
        Set<String> thrown = all(whole, "throw ([^;]*);");
        for (String text : thrown) {
            Matcher matcher = Pattern.compile("new (\\w+)\\((\"[^\"+]*\")?\\)").matcher(text);
            boolean written = matcher.matches() && EXCEPTIONS.contains(matcher.group(1));
            CHECK.due("rule 6, throw " + text, written, true);
        }
    }

    private static void statics(String code) {
        for (String line : code.split("\n")) {
            boolean field = line.contains(" static ") && line.trim().endsWith(";");
            CHECK.due("rule 5, " + line.trim(), !field || line.contains(" static final "), true);
        }
    }

    private static void sizes(String code) {
        CHECK.due("rule 11, classes", code.split("\\bclass \\w+ \\{").length - 1 <= MOST_CLASSES, true);
        Matcher head = Pattern.compile("(?m)^( +)(?:public|private)[\\w\\[\\] ]* (\\w+)\\(([^)]*)\\)[^;{]*\\{$")
                .matcher(code);
        int methods = 0;
        while (head.find()) {
            methods++;
            String body = code.substring(head.end(), code.indexOf("\n" + head.group(1) + "}", head.end()));
            CHECK.due("rule 11, lines of " + head.group(2), body.split("\n").length <= LONGEST_METHOD, true);
            CHECK.due("rule 11, parameters of " + head.group(2), head.group(3).split(",").length <= MOST_PARAMETERS,
                    true);
        }
        CHECK.due("methods were found", methods > 100, true);
    }

    private static void fields() {
        List<Class<?>> classes = new java.util.ArrayList<>(List.of(DraftLeague.class.getDeclaredClasses()));
        classes.add(DraftLeague.class);
        for (Class<?> type : classes) {
            int fields = 0;
            for (var field : type.getDeclaredFields()) {
                fields += java.lang.reflect.Modifier.isStatic(field.getModifiers()) ? 0 : 1;
            }
            CHECK.due("rule 11, fields of " + type.getName(), fields <= MOST_FIELDS, true);
        }
    }
}

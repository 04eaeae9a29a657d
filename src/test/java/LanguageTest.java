import java.io.IOException;
import java.nio.file.Files;
import java.nio.file.Path;
import java.util.List;
import java.util.Set;
import java.util.regex.Matcher;
import java.util.regex.Pattern;

/** Those rules of LANGUAGE.md that the text of the class shows; run from the project's folder. */
public final class LanguageTest {
    private static final List<String> FORBIDDEN = List.of(
        "->", "::", "\\bfinally\\b", "\\bsynchronized\\b", "\\bassert\\b", "\\bpublic static\\b",
        "\\bprotected\\b", "\\bString\\.", "\\bhashCode\\b", "\\bHashMap\\b", "\\bObject\\b", "\\bstream\\(",
        "\\bSystem\\.(?!arraycopy\\()", "Exact\\(", "\\bpackage\\b", "\\bMath\\.random\\b", "\\bThread\\b",
        "\\bArrays\\.(?!(fill|copyOf|copyOfRange)\\()", "\\bcatch \\((Throwable|Exception|Error|NullPointer|ArrayIndex|ClassCast|NegativeArray|ArrayStore)");

    private static final Set<String> IMPORTED = Set.of("java.util.ArrayList", "java.util.Arrays", "java.util.Iterator",
        "java.util.List", "java.util.NoSuchElementException");

    private static final Set<String> THROWN = Set.of("IllegalStateException", "IllegalArgumentException",
        "IndexOutOfBoundsException", "ArithmeticException", "UnsupportedOperationException",
        "NoSuchElementException", "RuntimeException");

    private static void forbiddenWords(String code) {
        for (String word : FORBIDDEN) {
            Check.due("the code has " + word, Pattern.compile(word).matcher(code).find(), false);
        }
    }

    private static void imports(String code) {
        Matcher matcher = Pattern.compile("import ([\\w.* ]+);").matcher(code);
        while (matcher.find()) {
            Check.due("may import " + matcher.group(1), IMPORTED.contains(matcher.group(1)), true);
        }
    }

    private static void thrown(String code) {
        Matcher matcher = Pattern.compile("\\bthrow\\b([^;]*);").matcher(code);
        while (matcher.find()) {
            Matcher form = Pattern.compile(" new (\\w+)\\((\"[^\"]*\")?\\)").matcher(matcher.group(1));
            Check.due("thrown:" + matcher.group(1), form.matches() && THROWN.contains(form.group(1)), true);
        }
    }

    private static void sizes(List<String> lines) {
        int begin = 0;
        for (int i = 0; i < lines.size(); i++) {
            String line = lines.get(i);
            Check.due("line " + (i + 1) + " has another sign", line.chars().anyMatch(sign -> sign > 126), false);
            if (line.matches("\\s+[\\w<> \\[\\]]+\\(.*\\) \\{") && !line.contains(" else ") && !line.contains("if (")) {
                begin = i;
            }
            if (line.matches("    (    )?\\}")) {
                Check.due("the method before line " + (i + 1) + " is too long", i - begin > 60, false);
                begin = i;
            }
        }
    }

    private static void classes(String code) {
        Matcher matcher = Pattern.compile("(?m)^\\s*[\\w ]*\\b(class|interface|enum|record) \\w+").matcher(code);
        int count = 0;
        while (matcher.find()) {
            count++;
        }
        Check.due("more than twelve classes", count > 12, false);
    }

    public static void main(String[] arguments) throws IOException {
        String text = Files.readString(Path.of("src/main/java/Prereqs.java"));
        String code = text.replaceAll("(?s)/\\*.*?\\*/", "").replaceAll("//[^\n]*", "");
        forbiddenWords(code.replaceAll("\"[^\"]*\"", "\"\"").replaceAll("(case [^;{]*|default )->", "$1:"));
        imports(code);
        thrown(code);
        classes(code);
        sizes(text.lines().toList());
        Check.end();
    }
}

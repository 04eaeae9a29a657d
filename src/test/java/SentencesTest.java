import java.io.IOException;
import java.nio.file.Files;
import java.nio.file.Path;
import java.util.ArrayList;
import java.util.Arrays;
import java.util.List;
import java.util.Map;
import java.util.TreeMap;
import java.util.regex.Matcher;
import java.util.regex.Pattern;
import java.util.stream.Stream;

/**
 * Each word of the document's sentences stands in a quote of a test that looks at it, and no test quotes what the
 * document does not say. The number of a promise stands for it, 0 for the Terms, -1 for "What it is"; what is not
 * promised binds nobody, and FaceTest looks at the face.
 */
public final class SentencesTest {
    private static final Pattern QUOTE = Pattern.compile(
            "Edges\\.sentence\\((-?\\d+),\\s*(\"(?:[^\"\\\\]|\\\\.)*\"(?:\\s*\\+\\s*\"(?:[^\"\\\\]|\\\\.)*\")*)\\)");
    private static final Pattern SECTION = Pattern.compile("(?s)(What it is|Terms|Promise (\\d+))\\b[^\n]*\n(.*)");

    private SentencesTest() {
    }

    private static String inOneLine(String text) {
        return text.replaceAll("```\\w*", " ").replaceAll("\\s+", " ").trim();
    }

    private static int numberOf(Matcher section) {
        return section.group(2) != null ? Integer.parseInt(section.group(2)) : section.group(1).equals("Terms") ? 0 : -1;
    }

    /** The paragraphs of each section; the document sets a few words of one apart as a text block. */
    private static Map<Integer, List<String>> sections() throws IOException {
        Map<Integer, List<String>> sections = new TreeMap<>();
        String document = Files.readString(Path.of("../shared/DOC.md")).replaceAll("\\s*```text\\s*", " ");
        for (String text : document.split("(?m)^## ")) {
            Matcher section = SECTION.matcher(text);
            if (section.matches()) {
                List<String> paragraphs = new ArrayList<>();
                for (String paragraph : section.group(3).split("\n\\s*\n|\n(?=- )")) {
                    paragraphs.add(inOneLine(paragraph));
                }
                sections.put(numberOf(section), paragraphs);
            }
        }
        return sections;
    }

    private static Map<Integer, List<String>> quotes() throws IOException {
        Map<Integer, List<String>> quotes = new TreeMap<>();
        List<Path> tests;
        try (Stream<Path> files = Files.list(Path.of("src/test/java"))) {
            tests = files.filter(file -> file.toString().endsWith("Test.java")).sorted().toList();
        }
        for (Path test : tests) {
            Matcher matcher = QUOTE.matcher(Files.readString(test));
            while (matcher.find()) {
                String words = matcher.group(2).replaceAll("\"\\s*\\+\\s*\"", "");
                quotes.computeIfAbsent(Integer.parseInt(matcher.group(1)), key -> new ArrayList<>())
                        .add(words.substring(1, words.length() - 1));
            }
        }
        return quotes;
    }

    /** The face of a call stands before what it does, and a heading such as "Seats." before some paragraphs. */
    private static String withoutHead(int section, String paragraph) {
        String told = paragraph.replaceFirst("^`[^`]*\\([^`]*`: ", "");
        return section == 0 ? told.replaceFirst("^[A-Z]\\w*( and \\w+| \\w+)?\\. ", "") : told;
    }

    /** A refusal and a range are quoted in full, and other paragraphs by quotes that have all their words. */
    private static void dueIsQuoted(int section, String paragraph, List<String> quotes) {
        if (paragraph.startsWith("Throws ")) {
            Check.due(section + " is quoted: " + paragraph, quotes.contains(paragraph), true);
        } else if (paragraph.startsWith("- `")) {
            // That a number names a course, a student or a formula is held by what is thrown if there is none.
            boolean isNumber = paragraph.matches("- `\\w+`: the number of the (\\w| )+");
            Check.due(section + " is quoted: " + paragraph, isNumber || quotes.contains(paragraph.substring(2)), true);
        } else {
            String told = withoutHead(section, paragraph);
            Check.due(section + " \"" + told + "\", not quoted", notQuoted(told, quotes), "");
        }
    }

    private static String notQuoted(String told, List<String> quotes) {
        char[] left = told.toCharArray();
        for (String quote : quotes) {
            for (int at = told.indexOf(quote); at >= 0; at = told.indexOf(quote, at + 1)) {
                Arrays.fill(left, at, at + quote.length(), ' ');
            }
        }
        return new String(left).replaceAll("\\s+", " ").replaceAll("^[ .,;:-]*$", "");
    }

    public static void main(String[] arguments) throws IOException {
        Map<Integer, List<String>> sections = sections();
        Map<Integer, List<String>> quotes = quotes();
        Check.due("what it is, the Terms and 54 promises", sections.size(), 56);
        for (int section : sections.keySet()) {
            List<String> quoted = quotes.getOrDefault(section, List.of());
            for (String paragraph : sections.get(section)) {
                dueIsQuoted(section, paragraph, quoted);
            }
            String all = String.join(" ", sections.get(section));
            for (String quote : quoted) {
                Check.due(section + " says: " + quote, all.contains(quote), true);
            }
        }
        Check.end();
    }
}

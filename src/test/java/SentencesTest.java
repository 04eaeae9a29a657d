import java.io.IOException;
import java.nio.file.Files;
import java.nio.file.Path;
import java.util.ArrayList;
import java.util.List;
import java.util.Map;
import java.util.TreeMap;
import java.util.regex.Matcher;
import java.util.regex.Pattern;
import java.util.stream.Stream;

/**
 * Each sentence of the document that names an edge is looked at by an edge test that quotes it, and no edge test
 * quotes what the document does not say. Promise 0 stands for the Terms.
 */
public final class SentencesTest {
    private static final String EDGE = ".*(\\d|\\b(three|four|most|least|less|greater|first|last|lowest|empty|nobody"
            + "|never|only|without|before|otherwise|nothing|as long as)\\b).*";
    private static final Pattern QUOTE = Pattern.compile(
            "Edges\\.sentence\\((\\d+),\\s*(\"(?:[^\"\\\\]|\\\\.)*\"(?:\\s*\\+\\s*\"(?:[^\"\\\\]|\\\\.)*\")*)\\)");

    private SentencesTest() {
    }

    private static String inOneLine(String text) {
        return text.replaceAll("```\\w*", " ").replaceAll("\\s+", " ").trim();
    }

    /** The paragraphs of the Terms and of each promise. */
    private static Map<Integer, List<String>> sections() throws IOException {
        Map<Integer, List<String>> sections = new TreeMap<>();
        String document = Files.readString(Path.of("../shared/DOC.md"));
        for (String section : document.split("(?m)^## ")) {
            Matcher head = Pattern.compile("(?s)(Terms|Promise (\\d+))\\b[^\n]*\n(.*)").matcher(section);
            if (head.matches()) {
                int promise = head.group(2) == null ? 0 : Integer.parseInt(head.group(2));
                List<String> paragraphs = new ArrayList<>();
                for (String paragraph : head.group(3).split("\n\\s*\n|\n(?=- )")) {
                    paragraphs.add(inOneLine(paragraph));
                }
                sections.put(promise, paragraphs);
            }
        }
        return sections;
    }

    private static Map<Integer, List<String>> quotes() throws IOException {
        Map<Integer, List<String>> quotes = new TreeMap<>();
        List<Path> tests;
        try (Stream<Path> files = Files.list(Path.of("src/test/java"))) {
            tests = files.filter(file -> file.toString().endsWith("EdgesTest.java")).sorted().toList();
        }
        for (Path test : tests) {
            Matcher matcher = QUOTE.matcher(Files.readString(test));
            while (matcher.find()) {
                String words = matcher.group(2).replaceAll("\"\\s*\\+\\s*\"", "");
                quotes.computeIfAbsent(Integer.parseInt(matcher.group(1)), key -> new ArrayList<>())
                        .add(words.substring(1, words.length() - 1));
            }
        }
        return quotes;
    }

    /** A refusal and a range are quoted in full, and other sentences by some of their words. */
    private static void dueIsQuoted(int promise, String paragraph, List<String> quotes) {
        if (paragraph.startsWith("Throws ")) {
            Check.due(promise + " is quoted: " + paragraph, quotes.contains(paragraph), true);
        } else if (paragraph.startsWith("- `")) {
            boolean isQuoted = !paragraph.matches(".*\\d.*") || quotes.contains(paragraph.substring(2));
            Check.due(promise + " is quoted: " + paragraph, isQuoted, true);
        } else {
            for (String sentence : withoutHead(paragraph).split("(?<=[.]) ")) {
                boolean isQuoted = !sentence.matches(EDGE) || quotes.stream().anyMatch(sentence::contains);
                Check.due(promise + " is quoted: " + sentence, isQuoted, true);
            }
        }
    }

    /** The face of the call stands before what it does. */
    private static String withoutHead(String paragraph) {
        return paragraph.replaceFirst("^`[^`]*\\([^`]*`: ", "");
    }

    public static void main(String[] arguments) throws IOException {
        Map<Integer, List<String>> sections = sections();
        Map<Integer, List<String>> quotes = quotes();
        Check.due("the Terms and 54 promises", sections.size(), 55);
        for (int promise : sections.keySet()) {
            List<String> quoted = quotes.getOrDefault(promise, List.of());
            for (String paragraph : sections.get(promise)) {
                dueIsQuoted(promise, paragraph, quoted);
            }
            String all = String.join(" ", sections.get(promise));
            for (String quote : quoted) {
                Check.due(promise + " says: " + quote, all.contains(quote), true);
            }
        }
        Check.end();
    }
}

import java.io.IOException;
import java.nio.charset.StandardCharsets;
import java.nio.file.Files;
import java.nio.file.Path;
import java.util.BitSet;
import java.util.Map;
import java.util.TreeMap;
import java.util.regex.Matcher;
import java.util.regex.Pattern;

/**
 * Ties each edge's test to the words of the document that it holds: words that the document has not, an edge
 * without a test, and a promise or a term some words of which no edge quotes are all wrong answers.
 */
final class Edge {
    private static final Path DOCUMENT = Path.of("../shared/DOC.md");
    private static final Map<String, String> TEXTS = new TreeMap<>();
    private static final Map<String, BitSet> QUOTED = new TreeMap<>();
    private static String open = "";
    private static int askedThen = 0;

    private Edge() {
    }

    /** Reads the document; promises go by their numbers, terms by theirs: "1" .. "69", "I" .. "VI". */
    static void begin() throws IOException {
        String document = Files.readString(DOCUMENT, StandardCharsets.UTF_8);
        int first = document.indexOf("## Promise 1:");
        int terms = document.indexOf("## Terms");
        TEXTS.put("use", document.substring(0, document.indexOf("## The public face")));
        split(document.substring(terms, first), "(?m)^([IV]+)\\. ");
        split(document.substring(first, document.indexOf("## Not promised")), "## Promise (\\d+): .*\\s+`.*`: ");
        Check.due("promises and terms", TEXTS.size(), 69 + 6 + 1);
    }

    private static void split(String text, String head) {
        Matcher matcher = Pattern.compile(head).matcher(text);
        String name = "";
        int start = 0;
        while (matcher.find()) {
            put(name, text.substring(start, matcher.start()));
            name = matcher.group(1);
            start = matcher.end();
        }
        put(name, text.substring(start));
    }

    private static void put(String name, String text) {
        if (!name.isEmpty()) {
            TEXTS.put(name, text.replace("```text", "").replace("```", ""));
            QUOTED.put(name, new BitSet());
        }
    }

    /** The answers from now on are for these words. */
    static void of(String name, String words) {
        close();
        open = name + ": " + words;
        String text = TEXTS.getOrDefault(name, "");
        int at = text.indexOf(words);
        Check.due("the document's words " + open, at < 0 ? 0 : 1, 1);
        while (at >= 0 && QUOTED.containsKey(name)) {
            QUOTED.get(name).set(at, at + words.length());
            at = text.indexOf(words, at + 1);
        }
        askedThen = Check.asked();
        Check.about(open);
    }

    private static void close() {
        Check.about("");
        if (!open.isEmpty()) {
            Check.due("a test of " + open, Check.asked() > askedThen ? 1 : 0, 1);
        }
        open = "";
    }

    static void finish() {
        close();
        for (Map.Entry<String, BitSet> entry : QUOTED.entrySet()) {
            StringBuilder left = new StringBuilder();
            String text = TEXTS.get(entry.getKey());
            for (int i = 0; i < text.length(); i++) {
                left.append(entry.getValue().get(i) ? ' ' : text.charAt(i));
            }
            String words = left.toString().replaceAll("[^A-Za-z0-9]+", " ").trim();
            Check.due(entry.getKey() + ", words without a test: " + words, words.isEmpty() ? 0 : 1, 0);
        }
    }
}

import java.io.IOException;
import java.nio.charset.StandardCharsets;
import java.nio.file.Files;
import java.nio.file.Path;
import java.util.List;
import java.util.Map;
import java.util.TreeMap;

/** The document: tests quote the sentences that they hold it to, and none may be left over. */
final class Doc {
    private static final Path FILE = Path.of("../shared/DOC.md");
    /** The Terms are number 0; of each the words that no test has quoted yet. */
    private static final Map<Integer, String> LEFT = new TreeMap<>();
    private static final Map<Integer, String> WHOLE = new TreeMap<>();

    private Doc() { }

    static void read() throws IOException {
        if (!Files.isReadable(FILE)) {
            System.out.println("no " + FILE + ": whether it says what is quoted is not looked up");
            return;
        }
        String doc = Files.readString(FILE, StandardCharsets.UTF_8);
        String terms = doc.substring(doc.indexOf("## Terms") + 8, doc.indexOf("Ahead of the calls"));
        WHOLE.put(0, even(terms.replace("```text", "").replace("```", "")));
        for (int n = 1; n <= 49; n++) {
            int from = doc.indexOf("## Promise " + n + ":");
            int to = n < 49 ? doc.indexOf("## Promise " + (n + 1) + ":") : doc.indexOf("## Not promised");
            String body = doc.substring(from, to);
            WHOLE.put(n, even(body.substring(body.indexOf("`: ") + 3)));
        }
        LEFT.putAll(WHOLE);
    }

    /** "The public face", line by line; none, where there is no document. */
    static List<String> face() throws IOException {
        if (!Files.isReadable(FILE)) {
            System.out.println("no " + FILE + ": whether its face is the class's is not looked up");
            return List.of();
        }
        String doc = Files.readString(FILE, StandardCharsets.UTF_8);
        int from = doc.indexOf("```java\n", doc.indexOf("## The public face")) + 8;
        return doc.substring(from, doc.indexOf("```", from)).lines().toList();
    }

    private static String even(String words) {
        return words.replaceAll("\\s+", " ").trim();
    }

    static void terms(String words) {
        quote(0, words);
    }

    static void promise(int n, String words) {
        quote(n, words);
    }

    private static void quote(int n, String words) {
        Due.part((n == 0 ? "Terms" : "Promise " + n) + " \"" + words + "\"");
        if (!WHOLE.isEmpty()) {
            String whole = WHOLE.getOrDefault(n, "");
            Due.that("the document says it", whole.contains(even(words)));
            LEFT.put(n, LEFT.getOrDefault(n, "").replace(even(words), "|"));
        }
    }

    /** Every sentence of these parts (0: the Terms) has been quoted by a test. */
    static void allQuoted(int first, int last) {
        Due.part("the document");
        for (Map.Entry<Integer, String> left : LEFT.entrySet()) {
            int n = left.getKey();
            String words = left.getValue().replaceAll("[| .;:]+", " ").trim();
            if (n >= first && n <= last) {
                Due.that((n == 0 ? "Terms" : "Promise " + n) + ", no test quotes: " + words, words.isEmpty());
            }
        }
    }
}

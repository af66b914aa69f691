import java.io.IOException;
import java.nio.file.Files;
import java.nio.file.Path;
import java.util.Arrays;
import java.util.LinkedHashMap;
import java.util.Map;

/**
 * The document as the tests quote it. Every sentence of its description and
 * of its promises has to be quoted by a test, and the test has to check
 * something before it quotes the next one.
 */
final class Document {
    private static final Path PLACE = Path.of("../shared/DOC.md");

    private static final Map<String, String> SECTIONS = new LinkedHashMap<>();
    private static final Map<String, boolean[]> QUOTED = new LinkedHashMap<>();
    private static String head = "";
    private static String sentence = "";
    private static int checkedBefore = -1;

    private Document() {
    }

    static void read() throws IOException {
        for (String part : Files.readString(PLACE).split("\n## ")) {
            String title = part.split("\n")[0].split(":")[0];
            if (title.equals("Description") || title.startsWith("Promise ")) {
                String text = plain(part.substring(part.indexOf('\n')));
                SECTIONS.put(title, text);
                QUOTED.put(title, new boolean[text.length()]);
            }
        }
        Due.is("sections of the document", SECTIONS.size(), 32);
    }

    /** One space between words, without the line that is the signature of a promise. */
    private static String plain(String section) {
        return section.replaceFirst("(?m)^`(int|View)[^\n]*`$", "").replaceAll("\\s+", " ");
    }

    /** The section whose sentences are quoted from here on. */
    static void head(String title) {
        head = title;
        Due.holds("no section " + title, SECTIONS.containsKey(title));
    }

    static void promise(int number) {
        head("Promise " + number);
    }

    /** The sentence that the next checks are about. */
    static void says(String words) {
        endOfSentence();
        String text = SECTIONS.getOrDefault(head, "");
        int at = text.indexOf(words);
        Due.about(head + ": " + words);
        Due.holds("the document does not say so", at >= 0);
        for (; at >= 0; at = text.indexOf(words, at + 1)) {
            Arrays.fill(QUOTED.get(head), at, at + words.length(), true);
        }
        sentence = words;
        checkedBefore = Due.checked();
    }

    private static void endOfSentence() {
        Due.holds("nothing was checked for: " + sentence, checkedBefore != Due.checked());
    }

    /** Tells the words of the document that no test has quoted. */
    static void end() {
        endOfSentence();
        Due.about("words without a test");
        SECTIONS.forEach((title, text) -> {
            StringBuilder left = new StringBuilder();
            for (int i = 0; i < text.length(); i++) {
                left.append(QUOTED.get(title)[i] ? '|' : text.charAt(i));
            }
            // What stands between the sentences: marks, and the heads of lists and of groups.
            String rest = left.toString().replaceAll("\\|+", "|")
                    .replaceAll("---- [a-z ,]+(?=\\|)", "").replace("The constants:", "")
                    .replace("The constructor and the methods follow, a promise each: the "
                    + "signature, then what it does.", "");
            Due.holds(title + ": " + rest, !rest.matches(".*[A-Za-z0-9].*"));
        });
    }
}

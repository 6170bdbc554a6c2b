import java.io.IOException;
import java.nio.file.Files;
import java.nio.file.Path;
import java.util.LinkedHashMap;
import java.util.Map;
import java.util.regex.Matcher;
import java.util.regex.Pattern;

/**
 * The document's sentences, so that each can have a test of its own: a test names the sentence that
 * it is for, and at the end all of the terms and promises must have been named, each with at least
 * one answer looked at.
 */
final class Doc {
    private static final Path DOCUMENT = Path.of("../shared/DOC.md");
    private static final Pattern PROMISE =
        Pattern.compile("## Promise (\\d+): [^\n]*\n\\s*`[^`]*`: (.*?)(?=\n## |\\z)", Pattern.DOTALL);
    private static final Pattern TERM =
        Pattern.compile("\n(\\d)\\. (.*?)(?=\n\\d\\. |\nThe constants:)", Pattern.DOTALL);

    /** The parts of which every word must be named: "term 1" to "term 3", "promise 1" to "promise 24". */
    private static final Map<String, String> parts = new LinkedHashMap<>();
    private static final Map<String, boolean[]> named = new LinkedHashMap<>();
    private static String whole = "";
    private static String latest = "";
    private static int lookedBefore = 0;

    private Doc() {
    }

    static void open() throws IOException {
        String text = Files.readString(DOCUMENT);
        whole = oneLine(text);
        Matcher terms = TERM.matcher(text);
        while (terms.find()) {
            put("term " + terms.group(1), terms.group(2));
        }
        Matcher promises = PROMISE.matcher(text);
        while (promises.find()) {
            put("promise " + promises.group(1), promises.group(2));
        }
        Check.due("parts of the document", parts.size(), 27);
    }

    private static String oneLine(String text) {
        return text.replaceAll("```(text)?", " ").replaceAll("\\s+", " ").trim();
    }

    private static void put(String part, String text) {
        parts.put(part, oneLine(text));
        named.put(part, new boolean[oneLine(text).length()]);
    }

    /** What is looked at from here on is for this sentence of a term or a promise. */
    static void term(int number, String sentence) {
        name("term " + number, sentence);
    }

    static void promise(int number, String sentence) {
        name("promise " + number, sentence);
    }

    /** The same for a sentence that stands elsewhere. */
    static void face(String sentence) {
        finish();
        latest = sentence;
        Check.due("the document says: " + sentence, whole.contains(sentence), true);
        lookedBefore = Check.looked();
    }

    private static void name(String part, String sentence) {
        finish();
        latest = part + ": " + sentence;
        String text = parts.getOrDefault(part, "");
        int at = text.indexOf(sentence);
        Check.due(part + " says: " + sentence, at >= 0, true);
        for (int i = at; at >= 0 && i < at + sentence.length(); i++) {
            named.get(part)[i] = true;
        }
        lookedBefore = Check.looked();
    }

    private static void finish() {
        if (!latest.isEmpty() && Check.looked() == lookedBefore) {
            Check.fail("nothing is looked at for " + latest);
        }
    }

    /** Every letter and digit of the terms and promises must be in a sentence that was named. */
    static void close() {
        finish();
        for (String part : parts.keySet()) {
            StringBuilder left = new StringBuilder();
            String text = parts.get(part);
            for (int i = 0; i < text.length(); i++) {
                if (!named.get(part)[i] && Character.isLetterOrDigit(text.charAt(i))) {
                    left.append(text.charAt(i));
                }
            }
            Check.due(part + " without a test: '" + left + "', signs", left.length(), 0);
        }
    }
}

import java.io.IOException;
import java.io.UncheckedIOException;
import java.nio.file.Files;
import java.nio.file.Path;
import java.util.Map;
import java.util.TreeMap;
import java.util.regex.Matcher;
import java.util.regex.Pattern;

/** The document, so that a test can name the sentence that it tries; SentenceTest sees to it that none is left out. */
final class Doc {
    private static final String DOCUMENT = read();

    /** All from the Terms to the first promise, in one line. */
    static final String TERMS = flat(part("## Terms", "## Promise 1:").replaceAll("```text|```|==== \\d\\.", " "));

    /** Of each promise what stands behind its call. */
    static final Map<Integer, String> PROMISES = promises();

    private Doc() {
    }

    static void says(String sentence) {
        Checks.due("the document says '" + sentence + "'", TERMS.contains(sentence), true);
    }

    static void promise(int number, String words) {
        Checks.due("promise " + number, String.valueOf(PROMISES.get(number)), words);
    }

    private static Map<Integer, String> promises() {
        Matcher told = Pattern.compile("## Promise (\\d+): .*?\n\n`.*?`: (.*?)\n\n", Pattern.DOTALL).matcher(DOCUMENT);
        Map<Integer, String> found = new TreeMap<>();
        while (told.find()) {
            found.put(Integer.parseInt(told.group(1)), flat(told.group(2)));
        }
        return found;
    }

    private static String part(String from, String to) {
        return DOCUMENT.substring(DOCUMENT.indexOf(from) + from.length(), DOCUMENT.indexOf(to));
    }

    private static String flat(String text) {
        return text.replaceAll("\\s+", " ").trim();
    }

    private static String read() {
        try {
            return Files.readString(Path.of("../shared/DOC.md"));
        } catch (IOException e) {
            throw new UncheckedIOException(e);
        }
    }
}

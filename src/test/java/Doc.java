import java.io.IOException;
import java.io.UncheckedIOException;
import java.nio.file.Files;
import java.nio.file.Path;
import java.util.Map;
import java.util.TreeMap;
import java.util.regex.Matcher;
import java.util.regex.Pattern;
import java.util.stream.Collectors;

/** The document, so that a test can name the sentence that it tries; SentenceTest sees to it that none is left out. */
final class Doc {
    private static final String DOCUMENT = read();

    /** The Java of the public face, line by line. */
    static final String FACE = part("```java\n", "```\n\n## Terms");

    /** All ahead of the first promise and behind the last one, in one line, but for heads, the face and the signs between parts. */
    static final String TEXT = flat((part("# TwinRopes\n", "```java") + part("```\n\n## Terms", "## Promise 1:") + DOCUMENT.substring(
            DOCUMENT.indexOf("## Not promised"))).replaceAll("(?m)^#.*|^```.*|==== \\d\\.", " "));

    /** Of each promise what stands behind its call, and its call. */
    static final Map<Integer, String> PROMISES = promises(3);
    static final Map<Integer, String> CALLS = promises(2);

    /** Of each promise its head. */
    static final Map<Integer, String> HEADS = promises(1);

    /** All heads but those of the promises. */
    static final String OTHER_HEADS = DOCUMENT.lines().filter(line -> line.startsWith("#") && !line.startsWith("## Promise "))
            .collect(Collectors.joining(","));

    private Doc() {
    }

    static void says(String sentence) {
        Checks.due("the document says '" + sentence + "'", TEXT.contains(sentence), true);
    }

    static void promise(int number, String words) {
        Checks.due("promise " + number, String.valueOf(PROMISES.get(number)), words);
    }

    private static Map<Integer, String> promises(int part) {
        Matcher told = Pattern.compile("## Promise (\\d+): (.*?)\n\n`(.*?)`: (.*?)\n\n", Pattern.DOTALL).matcher(DOCUMENT);
        Map<Integer, String> found = new TreeMap<>();
        while (told.find()) {
            found.put(Integer.parseInt(told.group(1)), flat(told.group(part + 1)));
        }
        return found;
    }

    private static String part(String from, String to) {
        return DOCUMENT.substring(DOCUMENT.indexOf(from) + from.length(), DOCUMENT.indexOf(to));
    }

    private static String flat(String text) {
        return text.replaceAll("\\s+", " ").trim();
    }

    private static String read() {
        try {
            return Files.readString(Path.of("../shared/DOC.md"));
        } catch (IOException e) {
            throw new UncheckedIOException(e);
        }
    }
}

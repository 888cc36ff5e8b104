import java.io.IOException;
import java.nio.file.DirectoryStream;
import java.nio.file.Files;
import java.nio.file.Path;
import java.util.BitSet;
import java.util.Set;
import java.util.TreeSet;
import java.util.regex.Matcher;
import java.util.regex.Pattern;

/** That each sentence of the document, from its first line to its last one, and each promise is named by a test. */
public final class SentenceTest {
    private static final String TEXT = "(\"[^\"]*\"(?:\\s*\\+\\s*\"[^\"]*\")*)\\);";
    private static final Pattern SAYS = Pattern.compile("Doc\\.says\\(" + TEXT);
    private static final Pattern PROMISE = Pattern.compile("Doc\\.promise\\((\\d+),\\s*" + TEXT);

    private final BitSet named = new BitSet();
    private final Set<Integer> promises = new TreeSet<>();

    public static void main(String[] args) throws IOException {
        SentenceTest test = new SentenceTest();
        try (DirectoryStream<Path> files = Files.newDirectoryStream(Path.of("src/test/java"), "*Test.java")) {
            for (Path file : files) {
                test.look(Files.readString(file));
            }
        }
        test.tell();
        Checks.finish("SentenceTest");
    }

    private void look(String source) {
        Matcher says = SAYS.matcher(source);
        while (says.find()) {
            String sentence = joined(says.group(1));
            int at = Doc.TEXT.indexOf(sentence);
            Checks.due("'" + sentence + "' is of the document", at >= 0, true);
            if (at >= 0) {
                named.set(at, at + sentence.length());
            }
        }
        Matcher promise = PROMISE.matcher(source);
        while (promise.find()) {
            int number = Integer.parseInt(promise.group(1));
            Checks.due("promise " + number, joined(promise.group(2)), String.valueOf(Doc.PROMISES.get(number)));
            promises.add(number);
        }
    }

    private static String joined(String parts) {
        return parts.replaceAll("\"\\s*\\+\\s*\"", "").replaceAll("^\"|\"$", "");
    }

    private void tell() {
        Checks.due("promises of the document", Doc.PROMISES.size(), 56);
        Checks.due("the document has no other head", Doc.OTHER_HEADS, "# TwinRopes,## What it is,## The public face,## Terms,## Not promised");
        Checks.due("promises that a test names", promises, Doc.PROMISES.keySet());
        for (int at = named.nextClearBit(0); at < Doc.TEXT.length(); at = named.nextClearBit(at)) {
            int end = named.nextSetBit(at);
            String left = Doc.TEXT.substring(at, end < 0 ? Doc.TEXT.length() : end);
            Checks.due("left out", left.trim(), "");
            at += left.length();
        }
    }
}

import java.io.IOException;
import java.lang.reflect.InvocationTargetException;
import java.lang.reflect.Method;
import java.nio.file.Files;
import java.nio.file.Path;
import java.util.regex.Matcher;
import java.util.regex.Pattern;

/** That the answers of the example in README.md are those that the class gives, and that README.md names every test and every call. */
public final class ReadmeTest {
    private static final Pattern CALL = Pattern.compile("ropes\\.(\\w+)\\((.*)\\);\\s*(?:// (\\S+?)(?:[,:].*)?)?");
    private static final Pattern TEXT = Pattern.compile("// \"(.*)\", (\\d+) bytes");

    private final TwinRopes ropes = new TwinRopes();
    private String text = "";
    private int told;

    public static void main(String[] args) throws IOException, ReflectiveOperationException {
        String readme = Files.readString(Path.of("README.md"));
        Matcher example = Pattern.compile("```java\n(.*?)```", Pattern.DOTALL).matcher(readme);
        Checks.due("an example", example.find(), true);
        ReadmeTest test = new ReadmeTest();
        for (String line : example.group(1).split("\n")) {
            test.line(line);
        }
        Checks.due("answers told", test.told >= 12, true);
        Checks.due("one example", example.find(), false);
        try (var files = Files.newDirectoryStream(Path.of("src/test/java"), "*Test.java")) {
            for (Path file : files) {
                String name = file.getFileName().toString().replace(".java", "");
                Checks.due("README.md names " + name, readme.contains("`" + name + "`"), true);
            }
        }
        for (Method m : TwinRopes.class.getMethods()) {
            if (m.getDeclaringClass() == TwinRopes.class) {
                Checks.due("README.md names " + m.getName(), readme.contains("`" + m.getName() + "`"), true);
            }
        }
        Checks.finish("ReadmeTest");
    }

    private void line(String line) throws ReflectiveOperationException {
        Matcher bytes = TEXT.matcher(line);
        Matcher call = CALL.matcher(line);
        if (bytes.matches()) {
            text = bytes.group(1);
            Checks.due("bytes of '" + text + "'", text.length(), Integer.parseInt(bytes.group(2)));
        } else if (call.matches()) {
            answer(line, call.group(1), call.group(2), call.group(3));
        } else {
            Checks.due("line of the example", line, "TwinRopes ropes = new TwinRopes();");
        }
    }

    private void answer(String line, String name, String told, String due) throws ReflectiveOperationException {
        String[] numbers = told.isEmpty() ? new String[0] : told.split(", ");
        if (name.equals("feed")) {
            fed(line, numbers);
        }
        Object got = outcome(name, numbers);
        if (due != null) {
            this.told++;
            Checks.due(line, String.valueOf(got), due);
        }
    }

    /** The bytes are those of the text told above them. */
    private void fed(String line, String[] numbers) {
        StringBuilder all = new StringBuilder();
        for (String number : numbers) {
            int n = Long.decode(number).intValue();
            for (int shift = 24; shift >= 0; shift -= 8) {
                all.append((char) (n >>> shift & 255));
            }
        }
        String fed = all.toString().replaceAll("\0+$", "");
        Checks.due(line, text.startsWith(fed) ? fed : text, fed);
        text = text.substring(Math.min(fed.length(), text.length()));
    }

    private Object outcome(String name, String[] told) throws ReflectiveOperationException {
        for (Method m : TwinRopes.class.getMethods()) {
            if (m.getName().equals(name) && m.getParameterCount() == told.length) {
                Object[] arguments = new Object[told.length];
                for (int i = 0; i < told.length; i++) {
                    arguments[i] = m.getParameterTypes()[i] == boolean.class ? (Object) told[i].equals("true")
                            : (Object) Long.decode(told[i]).intValue();
                }
                try {
                    return m.invoke(ropes, arguments);
                } catch (InvocationTargetException e) {
                    return e.getCause().getClass().getSimpleName();
                }
            }
        }
        return "no such call";
    }
}

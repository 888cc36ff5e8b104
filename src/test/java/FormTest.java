import java.io.IOException;
import java.lang.reflect.Field;
import java.lang.reflect.Method;
import java.lang.reflect.Modifier;
import java.nio.file.Files;
import java.nio.file.Path;
import java.util.ArrayList;
import java.util.Arrays;
import java.util.List;
import java.util.Set;
import java.util.TreeSet;
import java.util.regex.Matcher;
import java.util.regex.Pattern;

/** The rules of LANGUAGE.md that a text can show, and the room that a run takes. */
public final class FormTest {
    private static final Path SOURCE = Path.of("src/main/java/TwinRopes.java");

    public static void main(String[] args) throws IOException {
        String source = Files.readString(SOURCE);
        members();
        classes();
        words(source);
        lengths(source);
        room();
        Checks.finish("FormTest");
    }

    private static void members() {
        Set<String> faceNames = new TreeSet<>();
        Set<String> others = new TreeSet<>();
        List<Class<?>> all = new ArrayList<>(Arrays.asList(TwinRopes.class.getDeclaredClasses()));
        all.add(TwinRopes.class);
        for (Class<?> c : all) {
            for (Method m : c.getDeclaredMethods()) {
                (Modifier.isPublic(m.getModifiers()) ? faceNames : others).add(m.getName());
                if (c == TwinRopes.class && !Modifier.isPublic(m.getModifiers())) {
                    Checks.due(m.getName() + " is private", Modifier.isPrivate(m.getModifiers()), true);
                }
                Checks.due(m.getName() + " takes at most seven", m.getParameterCount() <= 7, true);
            }
        }
        others.retainAll(faceNames);
        Checks.due("other methods that bear a public one's name", others, new TreeSet<>());
    }

    private static void classes() {
        Class<?>[] inside = TwinRopes.class.getDeclaredClasses();
        Checks.due("at most twelve classes", inside.length + 1 <= 12, true);
        for (Class<?> c : inside) {
            Checks.due(c.getName() + " is static", Modifier.isStatic(c.getModifiers()), true);
            Checks.due(c.getName() + " is private", Modifier.isPrivate(c.getModifiers()), true);
            int fields = 0;
            for (Field f : c.getDeclaredFields()) {
                fields += Modifier.isStatic(f.getModifiers()) ? 0 : 1;
                Checks.due(c.getName() + "." + f.getName() + " is not static or is final",
                        !Modifier.isStatic(f.getModifiers()) || Modifier.isFinal(f.getModifiers()), true);
            }
            Checks.due(c.getName() + " has some twenty fields at most", fields <= 20, true);
        }
    }

    private static void words(String source) {
        String[] none = {"synchronized", "assert ", "finally", "->", "::", "catch", "try ", "getMessage", "Exact\\(", "Random",
            "System\\.(?!arraycopy)", "static \\{", "Arrays\\.(?!copyOf|fill)", "Thread", "nanoTime", "\" \\+", "\\+ \"",
            "Object", "@", "package ", "import (?!java\\.util\\.Arrays;|java\\.util\\.NoSuchElementException;)", "double", "float",
            "hashCode", "toString", "instanceof", "[^\\x00-\\x7e]"};
        String bare = source.replaceAll("(?s)/\\*\\*.*?\\*/", "").replaceAll("//.*", "");
        for (String word : none) {
            Checks.due("the class has no " + word, Pattern.compile(word).matcher(bare).find(), false);
        }
        Matcher thrown = Pattern.compile("throw (?!new (IllegalStateException|IllegalArgumentException|IndexOutOfBoundsException|"
                + "UnsupportedOperationException|NoSuchElementException)\\(\"[^\"]*\"\\);)").matcher(bare);
        Checks.due("throws but of the listed ones", thrown.find(), false);
    }

    private static void lengths(String source) {
        String[] lines = source.split("\n");
        int begin = 0;
        for (int i = 0; i < lines.length; i++) {
            if (lines[i].matches(" {4}( {4})?[a-z].*\\) (throws .*)?\\{")) {
                begin = i;
            } else if (lines[i].matches(" {4}( {4})?\\}")) {
                Checks.due("the method that ends in line " + (i + 1) + " is short", begin == 0 || i - begin <= 60, true);
                begin = 0;
            }
            Checks.due("line " + (i + 1) + " is at most 130 long", lines[i].length() <= 130, true);
        }
    }

    /** A run has some 7.3 million elements in all: at 8 bytes each that is far above what is allowed here. */
    private static void room() {
        com.sun.management.ThreadMXBean meter =
                (com.sun.management.ThreadMXBean) java.lang.management.ManagementFactory.getThreadMXBean();
        long me = Thread.currentThread().getId();
        dearest(8);
        long before = meter.getThreadAllocatedBytes(me);
        dearest(512);
        long bytes = meter.getThreadAllocatedBytes(me) - before;
        Checks.due("512 calls take less than 2 MB: " + bytes, bytes < 2_000_000, true);
    }

    private static void dearest(int calls) {
        TwinRopes x = Checks.town("person at 1 roams 100;person at 1 roams 100;person at 1;person at 1;person at 1;person at 1;"
                + "person at 1;person at 1;rope 0 0 0;rope 1 0 1");
        for (int i = 0; i < calls / 16; i++) {
            Checks.tape(x, "guess 1 if near and not (one > other or rung < day);tell 1");
            x.law();
            x.hours(120);
            x.image();
            x.back();
            x.undo();
            x.listen();
            x.span(100, true);
            x.teams(-1);
            x.secret(0, 1);
            x.seed(i);
            x.cut(true);
        }
    }
}

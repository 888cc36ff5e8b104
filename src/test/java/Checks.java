import java.nio.charset.StandardCharsets;
import java.util.Arrays;
import java.util.concurrent.Callable;

/** What the tests share: telling texts to an object, and counting answers that are not due. */
final class Checks {
    private static int right;
    private static int wrong;

    private Checks() {
    }

    static void due(String call, Object got, Object want) {
        if (want.equals(got)) {
            right++;
        } else {
            wrong++;
            System.out.println(call + " answered " + got + ", due is " + want);
        }
    }

    /** The very class counts: what the Java machine throws by itself is of another one. */
    static void refused(String call, Class<? extends RuntimeException> want, Callable<?> what) {
        due(call, outcome(what), want.getName());
    }

    static void noIndex(String call, Callable<?> what) {
        refused(call, IndexOutOfBoundsException.class, what);
    }

    static void noArgument(String call, Callable<?> what) {
        refused(call, IllegalArgumentException.class, what);
    }

    private static Object outcome(Callable<?> what) {
        try {
            return what.call();
        } catch (Exception e) {
            return e.getClass().getName();
        }
    }

    static void tape(TwinRopes x, String text) {
        tape(x, text.getBytes(StandardCharsets.ISO_8859_1));
    }

    static void tape(TwinRopes x, byte... bytes) {
        byte[] padded = Arrays.copyOf(bytes, (bytes.length + 19) / 20 * 20);
        for (int i = 0; i < padded.length; i += 20) {
            x.feed(number(padded, i), number(padded, i + 4), number(padded, i + 8), number(padded, i + 12),
                    number(padded, i + 16));
        }
        x.end(bytes.length);
    }

    private static int number(byte[] bytes, int at) {
        return bytes[at] << 24 | (bytes[at + 1] & 255) << 16 | (bytes[at + 2] & 255) << 8 | bytes[at + 3] & 255;
    }

    static TwinRopes town(String... texts) {
        TwinRopes x = new TwinRopes();
        for (String text : texts) {
            tellTown(x, text);
        }
        return x;
    }

    static int tellTown(TwinRopes x, String text) {
        tape(x, text);
        return x.town();
    }

    static int tellLaw(TwinRopes x, String text) {
        tape(x, text);
        return x.law();
    }

    static void wrongTown(TwinRopes x, String text, int place) {
        noArgument("town of '" + text + "'", () -> tellTown(x, text));
        due("fault of '" + text + "'", x.fault(), place);
    }

    static void wrongLaw(TwinRopes x, String text, int place) {
        noArgument("law of '" + text + "'", () -> tellLaw(x, text));
        due("fault of '" + text + "'", x.fault(), place);
    }

    /** A wrong text, in which ^ stands ahead of the first wrong byte. */
    static void wrongTown(TwinRopes x, String marked) {
        wrongTown(x, marked.replace("^", ""), marked.indexOf('^'));
    }

    static void wrongLaw(TwinRopes x, String marked) {
        wrongLaw(x, marked.replace("^", ""), marked.indexOf('^'));
    }

    /** All that can be seen of an object without changing it, but fault(). */
    static String seen(TwinRopes x) {
        return seenButActs(x) + " " + x.count(11);
    }

    static String seenButActs(TwinRopes x) {
        StringBuilder all = new StringBuilder();
        for (int what = 0; what < 11; what++) {
            all.append(x.count(what)).append(' ');
        }
        int people = x.count(0);
        for (int p = 0; p < people; p++) {
            for (int what = 0; what < 10; what++) {
                all.append(x.person(p, what)).append(' ');
            }
            for (int o = 0; o < people; o++) {
                if (o != p) {
                    all.append(x.guessed(p, o)).append(' ').append(x.rung(p, o)).append(' ');
                    all.append(x.sounds(p, o)).append(' ').append(x.lets(p, o)).append(' ');
                }
            }
        }
        for (int hour = 0; hour < 12; hour++) {
            all.append(x.plan(0, hour)).append(' ').append(x.plan(1, hour)).append(' ');
        }
        for (int ago = 0; ago < x.count(10); ago++) {
            for (int what = 0; what < 5; what++) {
                all.append(x.log(ago, what)).append(' ');
            }
        }
        int seed = x.seed(0);
        x.seed(seed);
        return all.append(seed).toString();
    }

    /** That a call is refused and changes nothing that can be seen. */
    static void refusedWhole(TwinRopes x, String call, Class<? extends RuntimeException> want, Callable<?> what) {
        String before = seen(x);
        refused(call, want, what);
        due("after the refused " + call, seen(x), before);
    }

    static void finish(String test) {
        System.out.println(test + ": " + right + " right, " + wrong + " wrong");
        if (wrong > 0 || right == 0) {
            System.exit(1);
        }
    }
}

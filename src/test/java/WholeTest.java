import java.lang.reflect.InvocationTargetException;
import java.lang.reflect.Method;
import java.lang.reflect.Modifier;
import java.nio.charset.StandardCharsets;
import java.util.ArrayList;
import java.util.Arrays;
import java.util.Comparator;
import java.util.List;
import java.util.Set;
import java.util.TreeSet;

/** Each call of the face again and again on one object, till it has been called 512 times; the answers due are the Model's. */
public final class WholeTest {
    private static final int MOST_CALLS = 512;
    private static final String TOWN = "person at 1 roams 100 pay 3;person at 1 roams 60 pay 3 sworn;person at 2 roams 70 pay 9;"
            + "person at 2 roams 99;person at 1 roams 80 pay 50;guess 0 1 2;guess 2 3 9;guess 3 0 5;rope 0 0 0;rope 1 0 1;rope 0 5 2;rope 1 5 4";
    private static final String LAW = "guess 2 if sworn or rung > 1;guess 1 if not near and hour + day < 9;hush 1 if rang;tell 1 if one > other";

    private final TwinRopes ropes = new TwinRopes();
    private final Model model = new Model();
    private final Set<String> answers = new TreeSet<>();
    private final Set<String> answered = new TreeSet<>();
    private int calls;

    public static void main(String[] args) throws ReflectiveOperationException {
        Doc.says("A bell that is heard only if two pull it from two lofts who do not know of each other: people with haunts, ways of roaming, "
                + "pay, oaths, what each guesses of each other one, a plan of who is at which rope in which hour, a law in a text of what "
                + "one guesses by a sound, what an oath hushes and what is let out when two meet, hours in which the bell is dumb, cracked "
                + "or rings, days with meetings by draws, putting people to ropes, taking them off, swearing, moving, telling, changing "
                + "ropes, which tone an hour has, how often two can ring yet, the pair that lasts the longest, pairs put together so that "
                + "most rings are had, the most people of whom none knows of another one, who must go so that nobody knows, lofts so that "
                + "most pairs across can ring, the fewest by whom all are known, depths of knowing, circles of guesses, who pulled by what "
                + "was heard and which hour to listen to, the cheapest pair of an hour, hours that are spoilt and how to mend them, the "
                + "best people for a day, who is most guessed and who keeps it, odds of meeting, how long a secret lasts, choices of one "
                + "who suspects, shares of rings, people alike, hours ahead, trials and spans, a log in which each tone is led to its "
                + "pair, acts undone, and an image.");
        Doc.says("An object is used for at most 512 calls after it has been made; what later calls answer is free.");
        Doc.says("Nothing is promised beyond the answers and state changes described above, and nothing about an object after its 512th call.");
        for (int first = 0; first < 8; first++) {
            new WholeTest().run(first);
        }
        Checks.finish("WholeTest");
    }

    private static List<Method> face() {
        List<Method> face = new ArrayList<>();
        for (Method m : TwinRopes.class.getDeclaredMethods()) {
            if (Modifier.isPublic(m.getModifiers())) {
                face.add(m);
            }
        }
        face.sort(Comparator.comparing(Method::getName));
        return face;
    }

    private void run(int first) throws ReflectiveOperationException {
        tell(TOWN);
        same("town");
        tell(LAW);
        same("law");
        List<Method> face = face();
        for (int round = first; calls < MOST_CALLS; round++) {
            for (Method m : face) {
                same(m.getName(), arguments(m, round));
            }
            same("feed", told(0, round), told(1, round), told(2, round), told(3, round), told(4, round));
            same("end", 2 * (round % 5));
            same(round % 2 == 0 ? "listen" : "pulled", round % 2 == 0 ? new Object[0] : new Object[] {round % 4 == 1});
        }
        Checks.due("calls", calls, MOST_CALLS);
        for (Method m : face) {
            Checks.due(m.getName() + " has answered", answered.contains(m.getName()), true);
        }
        Checks.due("in many ways", answers.size() > 150, true);
    }

    private static Object[] arguments(Method m, int round) {
        Class<?>[] types = m.getParameterTypes();
        Object[] arguments = new Object[types.length];
        for (int i = 0; i < types.length; i++) {
            boolean isLoft = i == 0 && Set.of("rope", "off", "plan").contains(m.getName());
            boolean isDays = i >= 2 && m.getName().equals("odds");
            int n = isLoft ? round % 2 : isDays ? (round + i) % 4 : (round * (i + 1) + 2 * i + m.getName().length()) % 7;
            arguments[i] = types[i] == boolean.class ? (Object) (round % 2 == 0) : m.getName().equals("feed") ? (Object) told(n, round) : n;
        }
        return arguments;
    }

    /** Two HOURS and whether one heard it ring, as pulled and listen take them. */
    private static int told(int n, int round) {
        return n << 24 | (n + round) % 2 << 16 | n + 5 << 8 | round % 2;
    }

    private void tell(String text) throws ReflectiveOperationException {
        byte[] bytes = Arrays.copyOf(text.getBytes(StandardCharsets.ISO_8859_1), (text.length() + 19) / 20 * 20);
        for (int at = 0; at < bytes.length; at += 20) {
            Object[] numbers = new Object[5];
            for (int i = 0; i < 5; i++) {
                int from = at + 4 * i;
                numbers[i] = bytes[from] << 24 | bytes[from + 1] << 16 | bytes[from + 2] << 8 | bytes[from + 3];
            }
            same("feed", numbers);
        }
        same("end", text.length());
    }

    private void same(String name, Object... arguments) throws ReflectiveOperationException {
        if (calls == MOST_CALLS) {
            return;
        }
        calls++;
        String got = answer(ropes, name, arguments);
        Checks.due("call " + calls + ": " + name + Arrays.toString(arguments), got, answer(model, name, arguments));
        answers.add(name + got);
        if (!got.contains("Exception")) {
            answered.add(name);
        }
    }

    private static String answer(Object on, String name, Object[] arguments) throws ReflectiveOperationException {
        Class<?>[] types = new Class<?>[arguments.length];
        for (int i = 0; i < types.length; i++) {
            types[i] = arguments[i] instanceof Boolean ? boolean.class : int.class;
        }
        try {
            return String.valueOf(on.getClass().getMethod(name, types).invoke(on, arguments));
        } catch (InvocationTargetException e) {
            return e.getCause().getClass().getName();
        }
    }
}

import java.lang.reflect.InvocationTargetException;
import java.lang.reflect.Method;
import java.lang.reflect.Modifier;
import java.nio.charset.StandardCharsets;
import java.util.ArrayList;
import java.util.Arrays;
import java.util.Comparator;
import java.util.List;
import java.util.Random;

/** Long runs of drawn calls, each answer and each exception compared with the Model's. */
public final class ModelTest {
    private static final int RUNS = 120;
    private static final int CALLS = 500;

    private final Random random;
    private final TwinRopes ropes = new TwinRopes();
    private final Model model = new Model();
    private final List<String> calls = new ArrayList<>();
    private boolean right = true;

    private ModelTest(long seed) {
        random = new Random(seed);
    }

    public static void main(String[] args) throws ReflectiveOperationException {
        int runs = args.length > 0 ? Integer.parseInt(args[0]) : RUNS;
        int first = args.length > 1 ? Integer.parseInt(args[1]) : 1;
        int wrong = 0;
        for (int seed = first; seed < first + runs && wrong < 3; seed++) {
            ModelTest test = new ModelTest(seed);
            if (!test.run()) {
                wrong++;
                System.out.println("run " + seed + " differs from the model:");
                test.calls.forEach(call -> System.out.println("  " + call));
            }
        }
        if (wrong > 0) {
            System.exit(1);
        }
    }

    private static List<Method> face() {
        List<Method> face = new ArrayList<>();
        for (Method m : TwinRopes.class.getDeclaredMethods()) {
            if (Modifier.isPublic(m.getModifiers())) {
                face.add(m);
            }
        }
        face.sort(Comparator.comparing(Method::getName));
        return face;
    }

    private static final List<Method> FACE = face();
    /** Drawn too often, they would keep every town poor. */
    private static final List<String> RARE = List.of("seed", "forget", "back", "image", "undo", "off", "law", "town", "move");

    private boolean run() throws ReflectiveOperationException {
        int textEvery = 8 + random.nextInt(30);
        for (int i = random.nextInt(5); i >= 0; i--) {
            giveTown(false);
        }
        for (int i = 0; i < CALLS && right; i++) {
            int kind = random.nextInt(textEvery);
            if (kind == 0) {
                giveTown(random.nextInt(3) == 0);
            } else if (kind == 1) {
                giveLaw(random.nextInt(3) == 0);
            } else if (kind == 2) {
                giveTold();
            } else if (kind == 3) {
                same("hours", 1 + random.nextInt(random.nextBoolean() ? 14 : 120));
            } else if (kind == 4) {
                same("rope", random.nextInt(2), random.nextInt(12), person());
            } else if (kind == 5) {
                same("guess", person(), person(), random.nextInt(10));
            } else {
                drawnCall();
            }
            if (i % 25 == 0) {
                sameState();
            }
        }
        return right;
    }

    private void drawnCall() throws ReflectiveOperationException {
        Method m = FACE.get(random.nextInt(FACE.size()));
        if (RARE.contains(m.getName()) && random.nextInt(5) > 0) {
            return;
        }
        Class<?>[] types = m.getParameterTypes();
        Object[] arguments = new Object[types.length];
        for (int i = 0; i < types.length; i++) {
            arguments[i] = types[i] == boolean.class ? (Object) random.nextBoolean() : (Object) drawnNumber(m.getName(), i);
        }
        same(m.getName(), arguments);
    }

    private int drawnNumber(String name, int at) {
        if (name.equals("feed") || name.equals("seed")) {
            return random.nextInt();
        }
        switch (random.nextInt(40)) {
            case 0: return -1;
            case 1: return Integer.MIN_VALUE;
            case 2: return Integer.MAX_VALUE;
            case 3: return 121 - random.nextInt(30);
            default: break;
        }
        switch (name) {
            case "end": return random.nextInt(60);
            case "plan": case "rope": case "off":
                return at == 0 ? random.nextInt(2) : at == 1 ? random.nextInt(random.nextBoolean() ? 4 : 12) : person();
            case "tone": case "mend": case "change": return random.nextInt(12);
            case "person": return at == 0 ? person() : random.nextInt(11);
            case "guess": return at == 2 ? random.nextInt(11) : person();
            case "depth": return at == 1 ? random.nextInt(10) : person();
            case "move": return at == 1 ? random.nextInt(4) : person();
            case "odds": return at > 1 ? random.nextInt(5) : person();
            case "ahead": return at > 1 ? random.nextInt(102) : person();
            case "chimes": case "trial": case "span": case "cheap": case "hours": return random.nextInt(102);
            case "log": return at == 1 ? random.nextInt(6) : random.nextInt(62);
            case "count": return random.nextInt(13);
            default: return person();
        }
    }

    private int person() {
        return random.nextInt(Math.max(1, model.s.people.size()) + (random.nextInt(20) == 0 ? 1 : 0));
    }

    // ---- comparing

    private static String answer(Object on, String name, Object[] arguments) throws ReflectiveOperationException {
        Class<?>[] types = new Class<?>[arguments.length];
        for (int i = 0; i < types.length; i++) {
            types[i] = arguments[i] instanceof Boolean ? boolean.class : int.class;
        }
        try {
            return String.valueOf(on.getClass().getMethod(name, types).invoke(on, arguments));
        } catch (InvocationTargetException e) {
            return e.getCause().getClass().getName();
        }
    }

    private void same(String name, Object... arguments) throws ReflectiveOperationException {
        String due = answer(model, name, arguments);
        String got = answer(ropes, name, arguments);
        calls.add(name + Arrays.toString(arguments) + " = " + due);
        if (!got.equals(due)) {
            right = false;
            calls.add("  ^ but the class answers " + got);
        }
    }

    private void sameState() throws ReflectiveOperationException {
        for (int what = 0; what < 12; what++) {
            same("count", what);
        }
        for (int p = 0; p < 8; p++) {
            for (int what = 0; what < 10; what++) {
                same("person", p, what);
            }
            for (int o = 0; o < 8; o++) {
                same("guessed", p, o);
                same("rung", p, o);
                same("sounds", p, o);
                same("lets", p, o);
            }
        }
        for (int hour = 0; hour < 12; hour++) {
            same("plan", 0, hour);
            same("plan", 1, hour);
        }
        for (int ago = 0; ago <= 60; ago++) {
            for (int what = 0; what < 5; what++) {
                same("log", ago, what);
            }
        }
        same("fault");
    }

    // ---- texts

    private void give(byte[] bytes) throws ReflectiveOperationException {
        same("end", 0);
        for (int i = 0; i < bytes.length; i += 20) {
            Object[] numbers = new Object[5];
            for (int n = 0; n < 5; n++) {
                int number = 0;
                for (int b = 0; b < 4; b++) {
                    int at = i + 4 * n + b;
                    number = number << 8 | (at < bytes.length ? bytes[at] & 255 : 0);
                }
                numbers[n] = number;
            }
            same("feed", numbers);
        }
        same("end", bytes.length);
        calls.add("  (" + new String(bytes, StandardCharsets.ISO_8859_1) + ")");
    }

    private void giveTold() throws ReflectiveOperationException {
        byte[] told = new byte[random.nextInt(4) == 0 ? random.nextInt(43) : 2 * random.nextInt(4)];
        for (int i = 0; i < told.length; i++) {
            told[i] = (byte) random.nextInt(i % 2 == 0 ? random.nextInt(15) == 0 ? 32 : 12 : random.nextInt(15) == 0 ? 3 : 2);
        }
        give(told);
        if (random.nextBoolean()) {
            same("pulled", random.nextBoolean());
        } else {
            same("listen");
        }
    }

    private void giveTown(boolean spoil) throws ReflectiveOperationException {
        give(text(townLines(), spoil));
        same("town");
        same("fault");
    }

    private void giveLaw(boolean spoil) throws ReflectiveOperationException {
        List<String> lines = new ArrayList<>();
        int count = drawnCount(12);
        for (int i = 0; i < count; i++) {
            String line = pick("guess", "guess", "tell", "tell", "hush") + " " + random.nextInt(random.nextInt(10) == 0 ? 32 : 5);
            lines.add(random.nextInt(3) == 0 ? line : line + " if " + condition(random.nextInt(9)));
        }
        give(text(lines, spoil));
        same("law");
        same("fault");
    }

    private int drawnCount(int most) {
        return random.nextInt(12) == 0 ? most - 1 + random.nextInt(3) : random.nextInt(8);
    }

    private List<String> townLines() {
        List<String> lines = new ArrayList<>();
        int people = model.s.people.size();
        int count = drawnCount(14);
        for (int i = 0; i < count; i++) {
            if (people < 3 || random.nextInt(3) == 0 && (people < 8 || random.nextInt(9) == 0)) {
                lines.add("person at " + random.nextInt(random.nextInt(30) == 0 ? 9 : 2)
                        + (random.nextInt(3) > 0 ? " roams " + pick("100", "50", "100", "99", "33", "07") : "")
                        + (random.nextInt(3) > 0 ? " pay " + random.nextInt(random.nextInt(30) == 0 ? 102 : 40) : "")
                        + (random.nextInt(3) == 0 ? " sworn" : ""));
                people++;
                continue;
            }
            switch (random.nextInt(8)) {
                case 0: case 1: case 2:
                    lines.add("guess " + random.nextInt(people) + " " + random.nextInt(people) + " " + random.nextInt(10));
                    break;
                case 3: case 4: case 5:
                    lines.add("rope " + random.nextInt(2) + " " + random.nextInt(12) + " " + random.nextInt(people));
                    break;
                case 6: lines.add("doubt " + random.nextInt(random.nextInt(9) == 0 ? 11 : 9)); break;
                default: lines.add(random.nextBoolean() ? "hour " + random.nextInt(13) : "day " + random.nextInt(1001)); break;
            }
        }
        return lines;
    }

    private String pick(String... of) {
        return of[random.nextInt(of.length)];
    }

    private String condition(int deep) {
        switch (random.nextInt(deep > 0 ? 8 : 3)) {
            case 0: return pick("near", "sworn", "rang");
            case 1: case 2: return sum() + pick("<", " < ", ">", " > ") + sum();
            case 3: return "not " + condition(deep - 1);
            case 4: case 5: return "(" + condition(deep - 1) + pick("", " ") + ")";
            case 6: return condition(deep - 1) + " and " + condition(deep / 2);
            default: return condition(deep - 1) + " or " + condition(deep / 2);
        }
    }

    private String sum() {
        String part = pick("one", "other", "guess", "back", "rung", "hour", "day", "" + random.nextInt(12), "" + random.nextInt(1010));
        return random.nextInt(4) == 0 ? part + pick("+", " + ") + sum() : part;
    }

    private byte[] text(List<String> lines, boolean spoil) {
        StringBuilder text = new StringBuilder();
        for (String line : lines) {
            String more = (text.length() > 0 ? pick(";", " ; ", "; ") : pick("", "", " ")) + line;
            if (text.length() + more.length() < 400) {
                text.append(more);
            }
        }
        if (random.nextInt(10) == 0) {
            text.append(pick(" ", ";", "; "));
        }
        for (int i = spoil ? 1 + random.nextInt(2) : 0; i > 0; i--) {
            spoil(text);
        }
        byte[] bytes = text.toString().getBytes(StandardCharsets.ISO_8859_1);
        return bytes.length > 400 ? Arrays.copyOf(bytes, 400) : bytes;
    }

    private void spoil(StringBuilder text) {
        String signs = " ;()<>+0123456789aeghnorst\u00ffA\t\u0000";
        int at = random.nextInt(text.length() + 1);
        int how = random.nextInt(4);
        if (how == 0 && at < text.length()) {
            text.deleteCharAt(at);
        } else if (how == 1 && at < text.length()) {
            text.setCharAt(at, signs.charAt(random.nextInt(signs.length())));
        } else if (how == 2) {
            text.setLength(at);
        } else {
            text.insert(at, pick("" + signs.charAt(random.nextInt(signs.length())), " and ", " or ", " not ", "not ", "(", ")", " if ", " 7 "));
        }
    }
}

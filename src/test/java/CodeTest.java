import java.io.ByteArrayInputStream;
import java.io.DataInputStream;
import java.io.IOException;
import java.util.ArrayList;
import java.util.List;
import java.util.Map;
import java.util.Set;
import java.util.TreeMap;
import java.util.TreeSet;

/** The rules of LANGUAGE.md that can be seen in what javac made of the class: which calls there are, and how deep they go. */
public final class CodeTest {
    private static final Set<String> LIBRARY = Set.of("java/lang/Object.<init>", "java/lang/String.length", "java/lang/String.charAt",
            "java/lang/Math.max", "java/lang/Math.min", "java/lang/Math.floorMod", "java/lang/Integer.bitCount",
            "java/lang/System.arraycopy", "java/util/Arrays.copyOf", "java/util/Arrays.fill",
            "java/lang/IllegalStateException.<init>", "java/lang/IllegalArgumentException.<init>",
            "java/lang/IndexOutOfBoundsException.<init>", "java/lang/UnsupportedOperationException.<init>",
            "java/util/NoSuchElementException.<init>");
    private static final Set<String> ROUND = Set.of("TwinRopes$LawText.takeAtom", "TwinRopes$LawText.takeCondition");
    private static final int MOST_DEEP = 8;

    private static final int PUTSTATIC = 179;
    private static final int FIRST_INVOKE = 182;
    private static final int LAST_INVOKE = 185;
    private static final int INVOKEDYNAMIC = 186;
    private static final int ATHROW = 191;
    private static final int CHECKCAST = 192;
    private static final int MONITORENTER = 194;
    private static final int MULTIANEWARRAY = 197;

    /** Of each method whom it calls. */
    private final Map<String, Set<String>> calls = new TreeMap<>();
    private final Set<String> library = new TreeSet<>();
    private final Set<Integer> operations = new TreeSet<>();
    private final Set<String> throwers = new TreeSet<>();

    public static void main(String[] args) throws IOException {
        CodeTest test = new CodeTest();
        test.look("TwinRopes");
        for (Class<?> inside : TwinRopes.class.getDeclaredClasses()) {
            test.look(inside.getName());
        }
        test.tell();
        Checks.finish("CodeTest");
    }

    private void tell() {
        library.removeAll(LIBRARY);
        Checks.due("calls of a library that is not listed", library, Set.of());
        Checks.due("methods", calls.size() > 200, true);
        for (int none : new int[] {PUTSTATIC, INVOKEDYNAMIC, CHECKCAST, MONITORENTER, MONITORENTER + 1, MULTIANEWARRAY}) {
            Checks.due("operation " + none, operations.contains(none), false);
        }
        Checks.due("code ahead of the first object", calls.keySet().stream().anyMatch(m -> m.endsWith("<clinit>")), false);
        Checks.due("no throw in a constructor", throwers.stream().anyMatch(m -> m.endsWith("<init>")), false);
        Checks.due("only the class of the face throws", throwers.stream().allMatch(m -> m.startsWith("TwinRopes.")), true);
        Set<String> round = new TreeSet<>();
        for (String method : calls.keySet()) {
            List<String> way = deepest(method, List.of(method), round);
            Checks.due("how deep calls go: " + way, way.size() <= MOST_DEEP, true);
        }
        Checks.due("methods that come back to themselves", round, new TreeSet<>(ROUND));
    }

    private List<String> deepest(String method, List<String> open, Set<String> round) {
        List<String> best = List.of(method);
        for (String next : calls.get(method)) {
            if (open.contains(next)) {
                round.addAll(open.subList(open.indexOf(next), open.size()));
                continue;
            }
            List<String> longer = new ArrayList<>(open);
            longer.add(next);
            List<String> below = deepest(next, longer, round);
            if (below.size() + 1 > best.size()) {
                best = new ArrayList<>(List.of(method));
                best.addAll(below);
            }
        }
        return best;
    }

    // ---- reading what javac made

    private void look(String name) throws IOException {
        DataInputStream in = new DataInputStream(CodeTest.class.getResourceAsStream("/" + name + ".class"));
        in.skipBytes(8);
        Object[] pool = pool(in);
        in.readUnsignedShort();
        String own = text(pool, in.readUnsignedShort());
        in.readUnsignedShort();
        in.skipBytes(2 * in.readUnsignedShort());
        members(in, pool, own, false);
        members(in, pool, own, true);
    }

    private static Object[] pool(DataInputStream in) throws IOException {
        Object[] pool = new Object[in.readUnsignedShort()];
        for (int i = 1; i < pool.length; i++) {
            int tag = in.readUnsignedByte();
            switch (tag) {
                case 1: pool[i] = in.readUTF(); break;
                case 7: case 8: case 16: case 19: case 20: pool[i] = new int[] {in.readUnsignedShort()}; break;
                case 9: case 10: case 11: case 12: case 17: case 18:
                    pool[i] = new int[] {in.readUnsignedShort(), in.readUnsignedShort()};
                    break;
                case 15: in.skipBytes(3); break;
                case 5: case 6: in.skipBytes(8); i++; break;
                default: in.skipBytes(4); break;
            }
        }
        return pool;
    }

    /** A text, or the first text that an entry leads to. */
    private static String text(Object[] pool, int at) {
        return pool[at] instanceof String ? (String) pool[at] : text(pool, ((int[]) pool[at])[0]);
    }

    private void members(DataInputStream in, Object[] pool, String own, boolean methods) throws IOException {
        for (int i = in.readUnsignedShort(); i > 0; i--) {
            in.readUnsignedShort();
            String method = own + "." + text(pool, in.readUnsignedShort());
            in.readUnsignedShort();
            if (methods) {
                calls.putIfAbsent(method, new TreeSet<>());
            }
            for (int a = in.readUnsignedShort(); a > 0; a--) {
                String attribute = text(pool, in.readUnsignedShort());
                byte[] bytes = in.readNBytes(in.readInt());
                if (attribute.equals("Code")) {
                    code(new DataInputStream(new ByteArrayInputStream(bytes)), pool, method);
                }
            }
        }
    }

    private void code(DataInputStream in, Object[] pool, String method) throws IOException {
        in.readInt();
        byte[] code = in.readNBytes(in.readInt());
        Checks.due("catches of " + method, in.readUnsignedShort(), 0);
        for (int at = 0; at < code.length; at += length(code, at)) {
            int operation = code[at] & 255;
            operations.add(operation);
            if (operation == ATHROW) {
                throwers.add(method);
            }
            if (operation >= FIRST_INVOKE && operation <= LAST_INVOKE) {
                int[] called = (int[]) pool[(code[at + 1] & 255) << 8 | code[at + 2] & 255];
                called(method, text(pool, called[0]), text(pool, called[1]));
            }
        }
    }

    private void called(String method, String owner, String name) {
        if (!owner.startsWith("TwinRopes")) {
            library.add(owner + "." + name);
            return;
        }
        Set<String> known = calls.get(method);
        if (owner.equals("TwinRopes$Text") && name.equals("takeLine")) {
            known.add("TwinRopes$TownText.takeLine");
            known.add("TwinRopes$LawText.takeLine");
            return;
        }
        boolean ofText = (owner.equals("TwinRopes$TownText") || owner.equals("TwinRopes$LawText"))
                && List.of(TEXT_CALLS).contains(name);
        known.add((ofText ? "TwinRopes$Text" : owner) + "." + name);
    }

    /** What both kinds of texts have from Text. */
    private static final String[] TEXT_CALLS = {"firstWrong", "takeNumber", "takeSign", "takeWord", "lastTaken", "isNumber"};

    private static int length(byte[] code, int at) {
        int operation = code[at] & 255;
        if (operation == 170 || operation == 171) {
            int first = at + 4 - at % 4;
            int rows = operation == 171 ? 2 * number(code, first + 4) + 2 : number(code, first + 8) - number(code, first + 4) + 4;
            return first + 4 * rows - at;
        }
        if (operation == 196) {
            return (code[at + 1] & 255) == 132 ? 6 : 4;
        }
        if (operation >= 185 && operation <= 186 || operation == 200 || operation == 201) {
            return 5;
        }
        if (operation == MULTIANEWARRAY) {
            return 4;
        }
        boolean three = operation == 17 || operation == 19 || operation == 20 || operation == 132 || operation >= 153 && operation <= 168
                || operation >= 178 && operation <= 184 || operation == 187 || operation == 189 || operation == 192 || operation == 193
                || operation == 198 || operation == 199;
        boolean two = operation == 16 || operation == 18 || operation >= 21 && operation <= 25 || operation >= 54 && operation <= 58
                || operation == 169 || operation == 188;
        return three ? 3 : two ? 2 : 1;
    }

    private static int number(byte[] code, int at) {
        return code[at] << 24 | (code[at + 1] & 255) << 16 | (code[at + 2] & 255) << 8 | code[at + 3] & 255;
    }
}

import java.lang.reflect.Constructor;
import java.lang.reflect.Field;
import java.lang.reflect.Member;
import java.lang.reflect.Method;
import java.lang.reflect.Modifier;
import java.util.ArrayList;
import java.util.List;
import java.util.Set;
import java.util.TreeSet;

/** The public face: every constant, the constructor and every method with its exceptions, and no other member. */
public final class FaceTest {
    public static void main(String[] args) throws ReflectiveOperationException {
        members();
        methods();
        constant();
        constructor();
        theClass();
        promises();
        free();
        Checks.finish("FaceTest");
    }

    /** What the document's face has between its first { and its last }, a line each, without the names of arguments. */
    private static List<String> told() {
        List<String> told = new ArrayList<>();
        for (String line : Doc.FACE.split("\n")) {
            if (line.startsWith("    ")) {
                told.add(line.trim().replaceAll("(int|boolean) \\w+(?=[,)])", "$1"));
            }
        }
        return told;
    }

    private static void members() {
        Set<String> got = new TreeSet<>();
        for (Field f : TwinRopes.class.getDeclaredFields()) {
            if (isOpen(f)) {
                got.add(Modifier.toString(f.getModifiers()) + " " + f.getType() + " " + f.getName() + " = -1;");
            }
        }
        for (Constructor<?> c : TwinRopes.class.getDeclaredConstructors()) {
            if (isOpen(c)) {
                got.add(Modifier.toString(c.getModifiers()) + " " + c.getName() + names(c.getParameterTypes()) + ";");
            }
        }
        for (Method m : TwinRopes.class.getDeclaredMethods()) {
            if (isOpen(m)) {
                got.add(Modifier.toString(m.getModifiers()) + " " + m.getReturnType() + " " + m.getName()
                        + names(m.getParameterTypes()) + thrown(m.getExceptionTypes()) + ";");
            }
        }
        Checks.due("members that are not private", got, new TreeSet<>(told()));
        Checks.due("members told", told().size(), 57);
    }

    private static boolean isOpen(Member m) {
        return !Modifier.isPrivate(m.getModifiers());
    }

    private static String names(Class<?>[] types) {
        List<String> names = new ArrayList<>();
        for (Class<?> type : types) {
            names.add(type.getSimpleName());
        }
        return "(" + String.join(", ", names) + ")";
    }

    private static String thrown(Class<?>[] types) {
        String names = names(types);
        return types.length == 0 ? "" : " throws " + names.substring(1, names.length() - 1);
    }

    /** As a caller sees them: those of the class above it, and of the face. */
    private static void methods() {
        Set<String> got = new TreeSet<>();
        for (Method m : TwinRopes.class.getMethods()) {
            if (m.getDeclaringClass() != Object.class) {
                got.add(m.getName());
            }
        }
        Checks.due("a name each", got.size(), 55);
        Checks.due("no open class inside", TwinRopes.class.getClasses().length, 0);
    }

    private static void constant() throws ReflectiveOperationException {
        Checks.due("NONE", TwinRopes.NONE, -1);
        Checks.due("NONE is the only one", TwinRopes.class.getFields().length, 1);
        Checks.due("NONE is an int", TwinRopes.class.getField("NONE").getType(), int.class);
    }

    private static void constructor() throws ReflectiveOperationException {
        Constructor<TwinRopes> made = TwinRopes.class.getConstructor();
        Checks.due("the constructor throws nothing", made.getExceptionTypes().length, 0);
        Checks.due("one constructor", TwinRopes.class.getConstructors().length, 1);
        Checks.due("a new object", made.newInstance().count(0), 0);
    }

    private static void theClass() {
        Checks.due("the class", Modifier.toString(TwinRopes.class.getModifiers()) + " class " + TwinRopes.class.getName() + " {",
                Doc.FACE.replaceAll("(?s).*(public final class .*?\\{).*", "$1"));
        Checks.due("no class above it but Object", TwinRopes.class.getSuperclass(), Object.class);
        Checks.due("no interface", TwinRopes.class.getInterfaces().length, 0);
        Checks.due("no package", TwinRopes.class.getPackageName(), "");
    }

    /** Each promise is of one call of the face, in its order. */
    private static void promises() {
        List<String> calls = new ArrayList<>();
        for (String line : Doc.FACE.split("\n")) {
            if (line.startsWith("    public ") && line.contains("(")) {
                calls.add(line.trim().replace("public ", "").replace(";", ""));
            }
        }
        Checks.due("calls and promises", new ArrayList<>(Doc.CALLS.values()), calls);
        for (int promise = 2; promise <= 56; promise++) {
            String call = String.valueOf(Doc.CALLS.get(promise));
            Checks.due("head of promise " + promise, String.valueOf(Doc.HEADS.get(promise)), call.replaceAll("\\w+ (\\w+)\\(.*", "$1"));
        }
        Checks.due("head of promise 1", Doc.HEADS.get(1), "A new object");
    }

    private static void free() {
        Doc.says("How the state is held inside the object is free, as are the speed of each call, the text of toString and the behaviour of "
                + "equals and hashCode. Use of one object from several threads at once is not promised to be safe.");
        for (String name : new String[] {"toString", "equals", "hashCode", "finalize", "clone"}) {
            for (Method m : TwinRopes.class.getMethods()) {
                if (m.getName().equals(name)) {
                    Checks.due(name + " is as each object has it", m.getDeclaringClass(), Object.class);
                }
            }
        }
    }
}

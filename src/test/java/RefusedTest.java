import java.util.Arrays;
import java.util.NoSuchElementException;
import java.util.concurrent.Callable;

/**
 * Each call of the face with each argument at its least and its greatest, the next one beyond each, and the least and the greatest
 * int, in each way together: which exception is thrown, that a refused call changed nothing, and that one that only asks did not.
 */
public final class RefusedTest {
    private static final String INDEX = IndexOutOfBoundsException.class.getName();
    private static final String ARGUMENT = IllegalArgumentException.class.getName();
    private static final String STATE = IllegalStateException.class.getName();
    private static final String NO_ELEMENT = NoSuchElementException.class.getName();
    private static final String FULL = UnsupportedOperationException.class.getName();
    private static final int FAULT = 6;

    private final int people;
    private final String deep;

    private RefusedTest(int people) {
        this.people = people;
        this.deep = deep(rich(people));
    }

    public static void main(String[] args) {
        Doc.says("Of several exceptions the one told first is thrown;");
        Doc.says("a call that throws changes nothing but the TAPE, where it is used up, and fault(), where a text is read (also by one that is "
                + "refused).");
        Doc.says("IndexOutOfBoundsException: there is no such PERSON, LOFT, HOUR, HAUNT. IllegalArgumentException: a number is none, or two "
                + "are one. IllegalStateException: it cannot be.");
        Doc.promise(6, "The first wrong byte of the latest text that was read; NONE without one, and ahead of any.");
        for (int people : new int[] {0, 1, 2, 8}) {
            RefusedTest test = new RefusedTest(people);
            test.asksOfOne();
            test.asksOfTwo();
            test.asksOfNumbers();
            test.asksOfAll();
            test.acts();
            test.theTapeUsedUp();
            test.refusedTexts();
        }
        Checks.finish("RefusedTest");
    }

    /** A call by its numbers; true is 1. */
    interface Call {
        Object on(TwinRopes x, int[] numbers);
    }

    // ---- which arguments: P a PERSON, L a LOFT, H an HOUR, A a HAUNT, B a boolean, W and R what of a PERSON and of a row, * any

    private int least(char kind) {
        return kind == 'M' ? 1 : kind == 'T' ? -1 : 0;
    }

    private int greatest(char kind) {
        switch (kind) {
            case 'P': case 'T': return people - 1;
            case 'L': return 1;
            case 'H': return 11;
            case 'A': return 7;
            case 'W': case 'G': return 9;
            case 'R': return 4;
            case 'N': return 100;
            case 'M': return 120;
            case 'K': return 8;
            case 'X': return 99;
            case 'D': return 3;
            default: throw new IllegalArgumentException("no such kind");
        }
    }

    private int[] values(char kind) {
        if (kind == 'B') {
            return new int[] {0, 1};
        }
        if (kind == '*') {
            return new int[] {Integer.MIN_VALUE, -1, 0, 1, 60, Integer.MAX_VALUE};
        }
        return new int[] {Integer.MIN_VALUE, least(kind) - 1, least(kind), greatest(kind), greatest(kind) + 1, Integer.MAX_VALUE};
    }

    private boolean isNone(char kind, int n) {
        return kind != 'B' && kind != '*' && (n < least(kind) || n > greatest(kind));
    }

    /** The exception that is due by the arguments alone; empty, if none is. */
    private String refusal(String kinds, int[] numbers) {
        for (String wrong : new String[] {"PTLHA", "GMNKXD", "WR"}) {
            for (int i = 0; i < numbers.length; i++) {
                if (wrong.indexOf(kinds.charAt(i)) >= 0 && isNone(kinds.charAt(i), numbers[i])) {
                    return wrong.startsWith("P") ? INDEX : wrong.startsWith("G") ? ARGUMENT : NO_ELEMENT;
                }
            }
            if (wrong.startsWith("P") && kinds.startsWith("PP") && numbers[0] == numbers[1]) {
                return ARGUMENT;
            }
        }
        return "";
    }

    private void each(String name, String kinds, boolean acts, Call call) {
        int ways = 1;
        for (int i = 0; i < kinds.length(); i++) {
            ways *= values(kinds.charAt(i)).length;
        }
        for (int way = 0; way < ways; way++) {
            int[] numbers = new int[kinds.length()];
            int left = way;
            for (int i = 0; i < numbers.length; i++) {
                int[] values = values(kinds.charAt(i));
                numbers[i] = values[left % values.length];
                left /= values.length;
            }
            one(name, kinds, numbers, acts, call);
        }
    }

    private void one(String name, String kinds, int[] numbers, boolean acts, Call call) {
        String told = name + Arrays.toString(numbers) + " of " + people + " people";
        TwinRopes x = rich(people);
        String want = refusal(kinds, numbers);
        if (want.isEmpty()) {
            want = cannotBe(x, name, numbers);
        }
        String got = outcome(() -> call.on(x, numbers));
        Checks.due(told, got.startsWith("java.") ? got : "", want);
        if (!want.isEmpty() || !acts) {
            Checks.due("fault() behind " + told, x.fault(), FAULT);
            Checks.due("all behind " + told, deep(x), deep);
        }
    }

    private static String cannotBe(TwinRopes x, String name, int[] numbers) {
        if (name.equals("rope")) {
            return x.plan(1 - numbers[0], numbers[1]) == numbers[2] ? STATE : "";
        }
        if (name.equals("off")) {
            return x.plan(numbers[0], numbers[1]) == TwinRopes.NONE ? STATE : "";
        }
        return "";
    }

    private static String outcome(Callable<?> call) {
        try {
            return String.valueOf(call.call());
        } catch (Exception e) {
            return e.getClass().getName();
        }
    }

    // ---- the calls

    private void asksOfOne() {
        each("person", "PW", false, (x, n) -> x.person(n[0], n[1]));
        each("teams", "T", false, (x, n) -> x.teams(n[0]));
        each("depth", "PK", false, (x, n) -> x.depth(n[0], n[1]));
        each("circle", "P", false, (x, n) -> x.circle(n[0]));
        each("led", "PB", false, (x, n) -> x.led(n[0], n[1] == 1));
    }

    private void asksOfTwo() {
        each("guessed", "PP", false, (x, n) -> x.guessed(n[0], n[1]));
        each("rung", "PP", false, (x, n) -> x.rung(n[0], n[1]));
        each("sounds", "PP", false, (x, n) -> x.sounds(n[0], n[1]));
        each("lets", "PP", false, (x, n) -> x.lets(n[0], n[1]));
        each("both", "PP", false, (x, n) -> x.both(n[0], n[1]));
        each("lasts", "PP", false, (x, n) -> x.lasts(n[0], n[1]));
        each("secret", "PP", false, (x, n) -> x.secret(n[0], n[1]));
        each("odds", "PPDD", false, (x, n) -> x.odds(n[0], n[1], n[2], n[3]));
        each("rests", "PP", false, (x, n) -> x.rests(n[0], n[1]));
        each("ahead", "PPN", false, (x, n) -> x.ahead(n[0], n[1], n[2]));
    }

    private void asksOfNumbers() {
        each("plan", "LH", false, (x, n) -> x.plan(n[0], n[1]));
        each("tone", "H", false, (x, n) -> x.tone(n[0]));
        each("mend", "H", false, (x, n) -> x.mend(n[0]));
        each("chimes", "N", false, (x, n) -> x.chimes(n[0]));
        each("cheap", "X", false, (x, n) -> x.cheap(n[0]));
        each("trial", "NB", false, (x, n) -> x.trial(n[0], n[1] == 1));
        each("span", "NB", false, (x, n) -> x.span(n[0], n[1] == 1));
        each("log", "*R", false, (x, n) -> x.log(n[0], n[1]));
        each("count", "*", false, (x, n) -> x.count(n[0]));
    }

    private void asksOfAll() {
        each("cut", "B", false, (x, n) -> x.cut(n[0] == 1));
        Call[] calls = {(x, n) -> x.longest(), (x, n) -> x.fresh(), (x, n) -> x.crowd(), (x, n) -> x.go(), (x, n) -> x.heads(),
            (x, n) -> x.cheapest(), (x, n) -> x.spoilt(), (x, n) -> x.bill(), (x, n) -> x.most(), (x, n) -> x.nosy(), (x, n) -> x.twins(),
            (x, n) -> x.fault(), (x, n) -> x.feed(1, 2, 3, 4, 5) - 20 + (x.end("doubt 3".length()) ? 0 : 1)};
        for (int i = 0; i < calls.length; i++) {
            each("call " + i, "", false, calls[i]);
        }
        each("end", "*", false, (x, n) -> n[0] >= 0 && n[0] <= 7 || x.end(n[0]));
    }

    private void acts() {
        each("rope", "LHP", true, (x, n) -> x.rope(n[0], n[1], n[2]));
        each("off", "LH", true, (x, n) -> x.off(n[0], n[1]));
        each("change", "H", true, (x, n) -> x.change(n[0]));
        each("swear", "PB", true, (x, n) -> x.swear(n[0], n[1] == 1));
        each("move", "PA", true, (x, n) -> x.move(n[0], n[1]));
        each("guess", "PPG", true, (x, n) -> x.guess(n[0], n[1], n[2]));
        each("forget", "P", true, (x, n) -> x.forget(n[0]));
        each("hours", "M", true, (x, n) -> x.hours(n[0]));
    }

    /** What reads the TAPE uses it up, also if it is refused; a text tells its fault. */
    private void theTapeUsedUp() {
        used("town", "day 1;hour 12;bell", ARGUMENT, 11, TwinRopes::town);
        used("town", "doubt 9;", ARGUMENT, 8, TwinRopes::town);
        used("law", "tell 31", ARGUMENT, 5, TwinRopes::law);
        used("law", "tell 3 if", ARGUMENT, 9, TwinRopes::law);
        used("pulled", "\u001f\u0001", ARGUMENT, FAULT, x -> x.pulled(true));
        used("pulled", "\u0000\u0002", ARGUMENT, FAULT, x -> x.pulled(false));
        used("pulled", "\u0000", ARGUMENT, FAULT, x -> x.pulled(false));
        used("listen", "\u0000\u0001\u0000", ARGUMENT, FAULT, TwinRopes::listen);
        used("listen", " ".repeat(42), ARGUMENT, FAULT, TwinRopes::listen);
        used("pulled", "\u0000\u0001", "", FAULT, x -> x.pulled(true));
        used("pulled", "", "", FAULT, x -> x.pulled(false));
        used("listen", "\u001e\u0000", "", FAULT, TwinRopes::listen);
        used("listen", "", "", FAULT, TwinRopes::listen);
    }

    /** A call that reads the TAPE. */
    interface Reads {
        Object on(TwinRopes x);
    }

    private void used(String name, String tape, String want, int fault, Reads call) {
        TwinRopes x = rich(people);
        x.end(0);
        Checks.tape(x, tape);
        String got = outcome(() -> call.on(x));
        Checks.due(name + " of '" + tape + "'", got.startsWith("java.") ? got : "", want);
        Checks.due("fault() behind " + name, x.fault(), fault);
        TwinRopes same = rich(people);
        same.end(0);
        Checks.due("all behind " + name + " of '" + tape + "'", deep(x), deep(same));
    }

    private void refusedTexts() {
        String[] texts = {"", "  ", "doubt 9", "day 1;hour 1", "doubt 0", "bell"};
        int[] faults = {-1, -1, -1, -1, 6, 0};
        for (int i = 0; i < texts.length; i++) {
            TwinRopes x = rich(people, 12);
            x.end(0);
            Checks.tape(x, texts[i]);
            Checks.due("a 13th text, '" + texts[i] + "'", outcome(x::town), faults[i] < 0 ? FULL : ARGUMENT);
            Checks.due("fault() of '" + texts[i] + "'", x.fault(), faults[i]);
            TwinRopes same = rich(people, 12);
            same.end(0);
            Checks.due("all behind the 13th text", deep(x), deep(same));
        }
    }

    // ---- an object in which all is something, and all of it

    private static TwinRopes rich(int people) {
        return rich(people, 3);
    }

    private static TwinRopes rich(int people, int texts) {
        TwinRopes x = new TwinRopes();
        Checks.tellTown(x, lines("person at 1 roams 70 pay 9", people));
        Checks.tellTown(x, people > 0 ? "rope 0 0 0;rope 1 11 " + (people - 1) + ";doubt 4;day 7;hour 9" : "doubt 4;day 7;hour 9");
        for (int i = 2; i < texts; i++) {
            Checks.tellTown(x, people > 1 ? "rope 0 11 0;rope 1 3 " + (people - 1) + ";guess 0 1 3" : "");
        }
        Checks.tellLaw(x, "guess 1 if near;guess 2 if one < other and hour > 9;tell 1;hush 1 if rung > 2");
        x.hours(100);
        x.image();
        x.seed(-7);
        for (int i = 0; i < 13; i++) {
            x.change(i % 12);
        }
        if (people > 0) {
            x.swear(people - 1, true);
            x.move(0, 7);
        }
        if (people > 1) {
            x.guess(people - 1, 0, 8);
        }
        x.hours(30);
        Checks.tape(x, "day 1;bell");
        outcome(x::town);
        Checks.tape(x, "doubt 3");
        return x;
    }

    private static String lines(String line, int times) {
        return (line + ";").repeat(times).replaceAll(";$", "");
    }

    /** All but fault(): the TAPE, what is seen now, behind each act undone, in THE IMAGE, and what the TAPE tells. */
    private static String deep(TwinRopes x) {
        StringBuilder all = new StringBuilder();
        for (int n = 400; n >= 0; n--) {
            if (x.end(n)) {
                all.append("tape ").append(n);
                break;
            }
        }
        all.append(" now ").append(Checks.seen(x));
        while (x.undo()) {
            all.append(" undone ").append(Checks.seen(x));
        }
        all.append(" image ").append(x.back()).append(' ').append(Checks.seen(x));
        all.append(" told ").append(outcome(x::town)).append(' ').append(x.fault()).append(' ').append(Checks.seen(x));
        return all.toString();
    }
}

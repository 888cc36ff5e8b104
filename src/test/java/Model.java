import java.math.BigInteger;
import java.util.ArrayList;
import java.util.Arrays;
import java.util.Comparator;
import java.util.LinkedList;
import java.util.List;
import java.util.NoSuchElementException;
import java.util.TreeSet;
import java.util.function.Function;
import java.util.function.Predicate;
import java.util.function.ToIntFunction;
import java.util.regex.Matcher;
import java.util.regex.Pattern;

/** The document once more, in its plainest and slowest form, for ModelTest to compare the class with. */
public final class Model {
    static final int NONE = -1;

    /** Where a text is wrong. */
    static final class Wrong extends RuntimeException {
        private static final long serialVersionUID = 1L;
        final int place;

        Wrong(int place) {
            this.place = place;
        }
    }

    static final class Person {
        int haunt;
        int roams;
        int pay;
        boolean sworn;
    }

    /** What a LINE of THE LAW is asked with: one, another one, whether it rang. */
    static final class Asked {
        final State state;
        final int one;
        final int other;
        final boolean rang;

        Asked(State state, int one, int other, boolean rang) {
            this.state = state;
            this.one = one;
            this.other = other;
            this.rang = rang;
        }
    }

    static final class Line {
        String kind;
        int amount;
        Predicate<Asked> holds = asked -> true;
    }

    static final class State {
        List<Person> people = new ArrayList<>();
        int[][] guess = new int[8][8];
        int[][] rung = new int[8][8];
        int[][] plan = new int[2][12];
        int hour;
        int day;
        int doubt = 5;
        int seed = 1;
        int texts;
        List<Line> law;
        LinkedList<int[]> log = new LinkedList<>();

        State() {
            Arrays.fill(plan[0], NONE);
            Arrays.fill(plan[1], NONE);
        }

        State copy() {
            State s = new State();
            for (Person p : people) {
                Person q = new Person();
                q.haunt = p.haunt;
                q.roams = p.roams;
                q.pay = p.pay;
                q.sworn = p.sworn;
                s.people.add(q);
            }
            for (int i = 0; i < 8; i++) {
                s.guess[i] = guess[i].clone();
                s.rung[i] = rung[i].clone();
            }
            s.plan[0] = plan[0].clone();
            s.plan[1] = plan[1].clone();
            s.hour = hour;
            s.day = day;
            s.doubt = doubt;
            s.seed = seed;
            s.texts = texts;
            s.law = law;
            s.log.addAll(log);
            return s;
        }

        int tone(int a, int b) {
            if (a == NONE && b == NONE) {
                return 0;
            }
            if (a == NONE || b == NONE) {
                return 1;
            }
            if (guess[a][b] == 9 || guess[b][a] == 9) {
                return 2;
            }
            if (guess[a][b] >= doubt || guess[b][a] >= doubt) {
                return 3;
            }
            return 4;
        }

        boolean near(int a, int b) {
            return people.get(a).haunt == people.get(b).haunt;
        }

        int sum(String adds, int one, int other, boolean rang) {
            int sum = 0;
            Asked asked = new Asked(this, one, other, rang);
            for (Line line : law) {
                if (line.holds.test(asked)) {
                    sum += line.kind.equals(adds) ? line.amount : line.kind.equals("hush") ? -line.amount : 0;
                }
            }
            return sum;
        }

        int sounds(int one, int other) {
            return law == null ? 1 : sum("guess", one, other, tone(one, other) == 4);
        }

        int lets(int one, int other) {
            return law == null ? 2 : sum("tell", one, other, false);
        }

        static int bounded(int n) {
            return n < 0 ? 0 : n > 9 ? 9 : n;
        }

        int pull(int a, int b) {
            int tone = tone(a, b);
            if (tone >= 2) {
                int forA = bounded(guess[a][b] + sounds(a, b));
                int forB = bounded(guess[b][a] + sounds(b, a));
                guess[a][b] = forA;
                guess[b][a] = forB;
                if (tone == 4 && rung[a][b] < 99) {
                    rung[a][b]++;
                    rung[b][a]++;
                }
            }
            return tone;
        }

        void later(boolean meetings) {
            hour++;
            if (hour == 12) {
                hour = 0;
                if (meetings) {
                    meetings();
                }
                if (day < 9999) {
                    day++;
                }
            }
        }

        void meetings() {
            List<Integer> out = new ArrayList<>();
            for (int p = 0; p < people.size(); p++) {
                seed = (int) (1103515245L * seed + 12345L);
                int draw = (int) (((seed & 0xffffffffL) >> 16) % 32768);
                if (draw % 100 < people.get(p).roams) {
                    out.add(p);
                }
            }
            for (int a : out) {
                for (int b : out) {
                    if (a < b && near(a, b)) {
                        int forA = bounded(guess[a][b] + lets(a, b));
                        int forB = bounded(guess[b][a] + lets(b, a));
                        guess[a][b] = forA;
                        guess[b][a] = forB;
                    }
                }
            }
        }

        int pass(boolean meetings) {
            int a = plan[0][hour];
            int b = plan[1][hour];
            int tone = tone(a, b);
            if (tone > 0) {
                log.addFirst(new int[] {day, hour, a, b, tone});
                if (log.size() > 60) {
                    log.removeLast();
                }
            }
            pull(a, b);
            later(meetings);
            return tone;
        }

        int rings(int n, boolean meetings) {
            int rings = 0;
            for (int i = 0; i < n; i++) {
                if (pass(meetings) == 4) {
                    rings++;
                }
            }
            return rings;
        }

        boolean knows(int a, int b) {
            return guess[a][b] == 9 || guess[b][a] == 9;
        }

        int knowing() {
            int n = 0;
            for (int[] pair : pairs()) {
                if (knows(pair[0], pair[1])) {
                    n++;
                }
            }
            return n;
        }

        List<int[]> pairs() {
            List<int[]> pairs = new ArrayList<>();
            for (int a = 0; a < people.size(); a++) {
                for (int b = a + 1; b < people.size(); b++) {
                    pairs.add(new int[] {a, b});
                }
            }
            return pairs;
        }

        int lasts(int a, int b) {
            State s = copy();
            int n = 0;
            while (n < 60 && s.tone(a, b) == 4) {
                s.pull(a, b);
                s.later(false);
                n++;
            }
            return n;
        }

        boolean[] ringing(int a, int b) {
            State s = copy();
            boolean[] rings = new boolean[31];
            for (int h = 0; h < 31; h++) {
                rings[h] = s.pull(a, b) == 4;
                s.later(false);
            }
            return rings;
        }
    }

    State s = new State();
    State kept;
    LinkedList<State> past = new LinkedList<>();
    byte[] tape = new byte[0];
    int fault = NONE;

    // ---- texts

    static final class Token {
        final int place;
        final String sign;

        Token(int place, String sign) {
            this.place = place;
            this.sign = sign;
        }
    }

    static final class Tokens {
        private static final Pattern THING = Pattern.compile("[a-z]+|[0-9]+|[^ ]", Pattern.DOTALL);
        final List<Token> list = new ArrayList<>();
        final int length;
        int next;

        Tokens(byte[] bytes) {
            length = bytes.length;
            StringBuilder text = new StringBuilder();
            for (byte b : bytes) {
                text.append((char) (b & 255));
            }
            Matcher m = THING.matcher(text);
            while (m.find()) {
                list.add(new Token(m.start(), m.group()));
            }
        }

        boolean done() {
            return next == list.size();
        }

        String peek() {
            return done() ? "" : list.get(next).sign;
        }

        int place() {
            return done() ? length : list.get(next).place;
        }

        Wrong wrong() {
            return new Wrong(place());
        }

        boolean may(String sign) {
            if (peek().equals(sign)) {
                next++;
                return true;
            }
            return false;
        }

        void must(String sign) {
            if (!may(sign)) {
                throw wrong();
            }
        }

        boolean isNumber() {
            return !peek().isEmpty() && peek().charAt(0) >= '0' && peek().charAt(0) <= '9';
        }

        int number(int least, int greatest) {
            if (!isNumber() || peek().length() > 3) {
                throw wrong();
            }
            int n = Integer.parseInt(peek());
            if (n < least || n > greatest) {
                throw wrong();
            }
            next++;
            return n;
        }
    }

    private void lines(int most, Function<Tokens, Boolean> line) {
        Tokens t = new Tokens(tape);
        tape = new byte[0];
        fault = NONE;
        try {
            int n = 0;
            while (!t.done() || n > 0) {
                if (n == most || t.done()) {
                    throw t.wrong();
                }
                line.apply(t);
                n++;
                if (t.done()) {
                    break;
                }
                t.must(";");
            }
        } catch (Wrong w) {
            fault = w.place;
            throw new IllegalArgumentException();
        }
    }

    public int town() {
        State draft = s.copy();
        lines(14, t -> townLine(t, draft));
        if (s.texts == 12) {
            throw new UnsupportedOperationException();
        }
        s = draft;
        s.texts++;
        past.clear();
        return s.texts;
    }

    private static boolean townLine(Tokens t, State d) {
        int last = d.people.size() - 1;
        switch (t.peek()) {
            case "person":
                if (last == 7) {
                    throw t.wrong();
                }
                t.must("person");
                t.must("at");
                Person p = new Person();
                p.haunt = t.number(0, 7);
                p.roams = t.may("roams") ? t.number(0, 100) : 0;
                p.pay = t.may("pay") ? t.number(0, 99) : 0;
                p.sworn = t.may("sworn");
                d.people.add(p);
                return true;
            case "guess":
                t.must("guess");
                int a = t.number(0, last);
                Wrong atOther = t.wrong();
                int b = t.number(0, last);
                if (a == b) {
                    throw atOther;
                }
                d.guess[a][b] = t.number(0, 9);
                return true;
            case "rope":
                t.must("rope");
                int loft = t.number(0, 1);
                int hour = t.number(0, 11);
                Wrong atPerson = t.wrong();
                int who = t.number(0, last);
                if (d.plan[1 - loft][hour] == who) {
                    throw atPerson;
                }
                d.plan[loft][hour] = who;
                return true;
            case "doubt":
                t.must("doubt");
                d.doubt = t.number(1, 9);
                return true;
            case "hour":
                t.must("hour");
                d.hour = t.number(0, 11);
                return true;
            default:
                t.must("day");
                d.day = t.number(0, 999);
                return true;
        }
    }

    public int law() {
        List<Line> law = new ArrayList<>();
        lines(12, t -> law.add(lawLine(t)));
        s.law = law;
        past.clear();
        return law.size();
    }

    private static Line lawLine(Tokens t) {
        Line line = new Line();
        line.kind = t.peek();
        if (!line.kind.matches("guess|hush|tell")) {
            throw t.wrong();
        }
        t.next++;
        line.amount = t.number(0, 30);
        if (t.may("if")) {
            line.holds = any(t, 6);
        }
        return line;
    }

    private static Predicate<Asked> any(Tokens t, int deeper) {
        Predicate<Asked> p = all(t, deeper);
        while (t.may("or")) {
            p = p.or(all(t, deeper));
        }
        return p;
    }

    private static Predicate<Asked> all(Tokens t, int deeper) {
        Predicate<Asked> p = atom(t, deeper);
        while (t.may("and")) {
            p = p.and(atom(t, deeper));
        }
        return p;
    }

    private static Predicate<Asked> atom(Tokens t, int deeper) {
        if (t.peek().equals("not") || t.peek().equals("(")) {
            if (deeper == 0) {
                throw t.wrong();
            }
            if (t.may("not")) {
                return atom(t, deeper - 1).negate();
            }
            t.must("(");
            Predicate<Asked> p = any(t, deeper - 1);
            t.must(")");
            return p;
        }
        if (t.may("sworn")) {
            return x -> x.state.people.get(x.one).sworn;
        }
        if (t.may("near")) {
            return x -> x.state.near(x.one, x.other);
        }
        if (t.may("rang")) {
            return x -> x.rang;
        }
        ToIntFunction<Asked> left = sum(t);
        boolean less = t.may("<");
        if (!less) {
            t.must(">");
        }
        ToIntFunction<Asked> right = sum(t);
        return x -> less ? left.applyAsInt(x) < right.applyAsInt(x) : left.applyAsInt(x) > right.applyAsInt(x);
    }

    private static ToIntFunction<Asked> sum(Tokens t) {
        List<ToIntFunction<Asked>> parts = new ArrayList<>();
        do {
            parts.add(part(t));
        } while (t.may("+"));
        return x -> parts.stream().mapToInt(p -> p.applyAsInt(x)).sum();
    }

    private static ToIntFunction<Asked> part(Tokens t) {
        if (t.isNumber()) {
            int n = t.number(0, 999);
            return x -> n;
        }
        String word = t.peek();
        if (!word.matches("one|other|guess|back|rung|hour|day")) {
            throw t.wrong();
        }
        t.next++;
        switch (word) {
            case "one": return x -> x.one;
            case "other": return x -> x.other;
            case "guess": return x -> x.state.guess[x.one][x.other];
            case "back": return x -> x.state.guess[x.other][x.one];
            case "rung": return x -> x.state.rung[x.one][x.other];
            case "hour": return x -> x.state.hour;
            default: return x -> x.state.day;
        }
    }

    public int feed(int a, int b, int c, int d, int e) {
        if (tape.length > 380) {
            return NONE;
        }
        int at = tape.length;
        tape = Arrays.copyOf(tape, at + 20);
        for (int n : new int[] {a, b, c, d, e}) {
            tape[at++] = (byte) (n >> 24);
            tape[at++] = (byte) (n >> 16);
            tape[at++] = (byte) (n >> 8);
            tape[at++] = (byte) n;
        }
        return tape.length;
    }

    public boolean end(int n) {
        if (n < 0 || n > tape.length) {
            return false;
        }
        tape = Arrays.copyOf(tape, n);
        return true;
    }

    public int fault() {
        return fault;
    }

    // ---- wrong arguments

    private void person(int p) {
        if (p < 0 || p >= s.people.size()) {
            throw new IndexOutOfBoundsException();
        }
    }

    private void two(int a, int b) {
        person(a);
        person(b);
        legal(a != b);
    }

    private static void index(int n, int bound) {
        if (n < 0 || n >= bound) {
            throw new IndexOutOfBoundsException();
        }
    }

    private static void legal(boolean is) {
        if (!is) {
            throw new IllegalArgumentException();
        }
    }

    private static void possible(boolean is) {
        if (!is) {
            throw new IllegalStateException();
        }
    }

    // ---- what there is

    private int bits(Predicate<Integer> in) {
        int bits = 0;
        for (int p = 0; p < s.people.size(); p++) {
            if (in.test(p)) {
                bits |= 1 << p;
            }
        }
        return bits;
    }

    private int busy(int p) {
        int bits = 0;
        for (int h = 0; h < 12; h++) {
            if (s.plan[0][h] == p || s.plan[1][h] == p) {
                bits |= 1 << h;
            }
        }
        return bits;
    }

    private int due(int p) {
        return Integer.bitCount(busy(p)) * s.people.get(p).pay;
    }

    private int share(int p) {
        long all = s.log.stream().filter(r -> r[4] == 4).count();
        long own = s.log.stream().filter(r -> r[4] == 4 && (r[2] == p || r[3] == p)).count();
        return all == 0 ? 0 : (int) (own * 100 / all);
    }

    public int person(int person, int what) {
        person(person);
        Person p = s.people.get(person);
        switch (what) {
            case 0: return p.haunt;
            case 1: return p.roams;
            case 2: return p.pay;
            case 3: return p.sworn ? 1 : 0;
            case 4: return busy(person);
            case 5: return due(person);
            case 6: return Integer.bitCount(bits(o -> o != person && s.guess[o][person] == 0));
            case 7: return share(person);
            case 8: return bits(o -> o != person && s.near(o, person));
            case 9: return bits(o -> s.guess[person][o] == 9);
            default: throw new NoSuchElementException();
        }
    }

    public int guessed(int a, int b) {
        two(a, b);
        return s.guess[a][b];
    }

    public int rung(int a, int b) {
        two(a, b);
        return s.rung[a][b];
    }

    public int sounds(int a, int b) {
        two(a, b);
        return s.sounds(a, b);
    }

    public int lets(int a, int b) {
        two(a, b);
        return s.lets(a, b);
    }

    public int both(int a, int b) {
        two(a, b);
        return s.tone(a, b);
    }

    public int plan(int loft, int hour) {
        index(loft, 2);
        index(hour, 12);
        return s.plan[loft][hour];
    }

    public int tone(int hour) {
        index(hour, 12);
        return s.tone(s.plan[0][hour], s.plan[1][hour]);
    }

    // ---- acts

    private void act() {
        past.addLast(s.copy());
        if (past.size() > 12) {
            past.removeFirst();
        }
    }

    public int rope(int loft, int hour, int person) {
        index(loft, 2);
        index(hour, 12);
        person(person);
        possible(s.plan[1 - loft][hour] != person);
        act();
        int was = s.plan[loft][hour];
        s.plan[loft][hour] = person;
        return was;
    }

    public int off(int loft, int hour) {
        index(loft, 2);
        index(hour, 12);
        possible(s.plan[loft][hour] != NONE);
        act();
        int was = s.plan[loft][hour];
        s.plan[loft][hour] = NONE;
        return was;
    }

    public int change(int hour) {
        index(hour, 12);
        act();
        int was = s.plan[0][hour];
        s.plan[0][hour] = s.plan[1][hour];
        s.plan[1][hour] = was;
        return s.plan[0][hour];
    }

    public boolean swear(int person, boolean is) {
        person(person);
        act();
        boolean was = s.people.get(person).sworn;
        s.people.get(person).sworn = is;
        return was ^ is;
    }

    public int move(int person, int haunt) {
        person(person);
        index(haunt, 8);
        act();
        int was = s.people.get(person).haunt;
        s.people.get(person).haunt = haunt;
        return was;
    }

    public int guess(int a, int b, int n) {
        two(a, b);
        legal(n >= 0 && n <= 9);
        act();
        int was = s.guess[a][b];
        s.guess[a][b] = n;
        return was;
    }

    public int forget(int person) {
        person(person);
        act();
        int sum = 0;
        for (int o = 0; o < 8; o++) {
            sum += s.guess[person][o] + s.guess[o][person];
            s.guess[person][o] = 0;
            s.guess[o][person] = 0;
        }
        return sum;
    }

    public int hours(int n) {
        legal(n >= 1 && n <= 120);
        act();
        return s.rings(n, true);
    }

    // ---- what is asked for

    private static void upTo(int n, int most) {
        legal(n >= 0 && n <= most);
    }

    public int chimes(int n) {
        upTo(n, 100);
        return s.copy().rings(n, false);
    }

    public int lasts(int a, int b) {
        two(a, b);
        return s.lasts(a, b);
    }

    public int longest() {
        return s.pairs().stream()
                .min(Comparator.comparingInt((int[] p) -> -s.lasts(p[0], p[1])).thenComparingInt(p -> 8 * p[0] + p[1]))
                .map(p -> 8 * p[0] + p[1]).orElse(NONE);
    }

    private int[] bestTeams;
    private int bestWorth;

    private void teamsFrom(int p, int[] mates, int worth, int[][] lasts) {
        if (p == s.people.size()) {
            if (worth > bestWorth || worth == bestWorth && Arrays.compare(mates, bestTeams) < 0) {
                bestWorth = worth;
                bestTeams = mates.clone();
            }
            return;
        }
        if (mates[p] != NONE) {
            teamsFrom(p + 1, mates, worth, lasts);
            return;
        }
        for (int o = s.people.size() - 1; o > p; o--) {
            if (mates[o] == NONE) {
                mates[o] = p;
                mates[p] = o;
                teamsFrom(p + 1, mates, worth + lasts[p][o], lasts);
                mates[o] = NONE;
                mates[p] = NONE;
            }
        }
        teamsFrom(p + 1, mates, worth, lasts);
    }

    public int teams(int person) {
        if (person != NONE) {
            person(person);
        }
        int[][] lasts = new int[8][8];
        for (int[] p : s.pairs()) {
            lasts[p[0]][p[1]] = s.lasts(p[0], p[1]);
        }
        int[] mates = new int[8];
        Arrays.fill(mates, NONE);
        bestWorth = -1;
        bestTeams = null;
        teamsFrom(0, mates, 0, lasts);
        return person == NONE ? bestWorth : bestTeams[person];
    }

    private int countPairs(Predicate<int[]> fits) {
        return (int) s.pairs().stream().filter(fits).count();
    }

    public int fresh() {
        return countPairs(p -> s.guess[p[0]][p[1]] + s.guess[p[1]][p[0]] == 0);
    }

    private static boolean in(int set, int p) {
        return (set >> p) % 2 == 1;
    }

    /** The set of the greatest worth, of several the least; a worth below 0 is none. */
    private int bestSet(ToIntFunction<Integer> worth) {
        int best = 0;
        int greatest = Integer.MIN_VALUE;
        for (int set = 0; set < 1 << s.people.size(); set++) {
            int w = worth.applyAsInt(set);
            if (w > greatest) {
                greatest = w;
                best = set;
            }
        }
        return best;
    }

    private boolean unknown(int set) {
        return countPairs(p -> in(set, p[0]) && in(set, p[1]) && s.knows(p[0], p[1])) == 0;
    }

    public int crowd() {
        return bestSet(set -> unknown(set) ? Integer.bitCount(set) : -99);
    }

    public int go() {
        int all = (1 << s.people.size()) - 1;
        return bestSet(set -> unknown(all - set) ? -Integer.bitCount(set) : -99);
    }

    private int across(int set) {
        return countPairs(p -> in(set, p[0]) != in(set, p[1]) && s.tone(p[0], p[1]) == 4);
    }

    public int cut(boolean many) {
        int best = bestSet(this::across);
        return many ? across(best) : best;
    }

    public int heads() {
        return bestSet(set -> {
            for (int o = 0; o < s.people.size(); o++) {
                int other = o;
                if (!in(set, o) && bits(h -> in(set, h) && s.guess[h][other] >= s.doubt) == 0) {
                    return -99;
                }
            }
            return -Integer.bitCount(set);
        });
    }

    /** In how few steps one comes from one to another one; a great number, if never. */
    private int[][] steps() {
        int n = s.people.size();
        int[][] d = new int[n][n];
        for (int a = 0; a < n; a++) {
            for (int b = 0; b < n; b++) {
                d[a][b] = s.guess[a][b] > 0 ? 1 : 1000;
            }
        }
        for (int k = 0; k < n; k++) {
            for (int a = 0; a < n; a++) {
                for (int b = 0; b < n; b++) {
                    d[a][b] = Math.min(d[a][b], d[a][k] + d[k][b]);
                }
            }
        }
        return d;
    }

    public int depth(int person, int k) {
        person(person);
        upTo(k, 8);
        int[][] d = steps();
        return bits(o -> d[person][o] <= k);
    }

    public int circle(int person) {
        person(person);
        int d = steps()[person][person];
        return d > 8 ? NONE : d;
    }

    private List<int[]> fits() {
        byte[] told = tape;
        tape = new byte[0];
        legal(told.length <= 40 && told.length % 2 == 0);
        for (int i = 0; i < told.length; i += 2) {
            legal(told[i] >= 0 && told[i] <= 30 && told[i + 1] >= 0 && told[i + 1] <= 1);
        }
        List<int[]> fits = new ArrayList<>();
        for (int[] p : s.pairs()) {
            boolean[] rings = s.ringing(p[0], p[1]);
            boolean fit = true;
            for (int i = 0; i < told.length; i += 2) {
                fit &= rings[told[i]] == (told[i + 1] == 1);
            }
            if (fit) {
                fits.add(p);
            }
        }
        return fits;
    }

    public int pulled(boolean who) {
        List<int[]> fits = fits();
        if (!who) {
            return fits.size();
        }
        return fits.isEmpty() ? 0 : bits(p -> fits.stream().allMatch(f -> f[0] == p || f[1] == p));
    }

    public int listen() {
        List<int[]> fits = fits();
        if (fits.size() < 2) {
            return NONE;
        }
        TreeSet<Integer> best = new TreeSet<>();
        int least = 99;
        for (int h = 0; h < 31; h++) {
            int hour = h;
            int ring = (int) fits.stream().filter(p -> s.ringing(p[0], p[1])[hour]).count();
            int part = Math.max(ring, fits.size() - ring);
            if (part < least) {
                best.clear();
                least = part;
            }
            if (part == least) {
                best.add(h);
            }
        }
        return best.first();
    }

    private int pay(int[] p) {
        return s.people.get(p[0]).pay + s.people.get(p[1]).pay;
    }

    public int cheap(int x) {
        upTo(x, 99);
        return countPairs(p -> s.tone(p[0], p[1]) == 4 && pay(p) <= x);
    }

    public int cheapest() {
        return s.pairs().stream().filter(p -> s.tone(p[0], p[1]) == 4)
                .min(Comparator.comparingInt(this::pay).thenComparingInt(p -> 8 * p[0] + p[1]))
                .map(p -> 8 * p[0] + p[1]).orElse(NONE);
    }

    public int spoilt() {
        int bits = 0;
        for (int h = 0; h < 12; h++) {
            bits |= tone(h) >= 1 && tone(h) <= 3 ? 1 << h : 0;
        }
        return bits;
    }

    public int mend(int hour) {
        index(hour, 12);
        if (tone(hour) == 0 || tone(hour) == 4) {
            return NONE;
        }
        for (int code = 0; code < 2 * s.people.size(); code++) {
            int p = code / 2;
            if (s.plan[0][hour] != p && s.plan[1][hour] != p) {
                State t = s.copy();
                t.plan[code % 2][hour] = p;
                if (t.tone(t.plan[0][hour], t.plan[1][hour]) == 4) {
                    return code;
                }
            }
        }
        return NONE;
    }

    public int bill() {
        int sum = 0;
        for (int p = 0; p < s.people.size(); p++) {
            sum += due(p);
        }
        return sum;
    }

    private int greatest(ToIntFunction<Integer> sum) {
        int best = NONE;
        for (int p = s.people.size() - 1; p >= 0; p--) {
            if (sum.applyAsInt(p) > 0 && (best == NONE || sum.applyAsInt(p) >= sum.applyAsInt(best))) {
                best = p;
            }
        }
        return best;
    }

    public int most() {
        return greatest(p -> Arrays.stream(s.guess).mapToInt(row -> row[p]).sum());
    }

    public int nosy() {
        return greatest(p -> Arrays.stream(s.guess[p]).sum());
    }

    public int secret(int a, int b) {
        two(a, b);
        for (int n = 0; n <= 100; n++) {
            State t = s.copy();
            t.rings(n, false);
            if (t.knows(a, b)) {
                return n;
            }
        }
        return NONE;
    }

    /** The chance, in 10000 to the power of the DAYS left, of so many meetings at least. */
    private static BigInteger chance(int meet, int days, int least) {
        if (days == 0) {
            return least <= 0 ? BigInteger.ONE : BigInteger.ZERO;
        }
        BigInteger yes = BigInteger.valueOf(meet).multiply(chance(meet, days - 1, least - 1));
        return yes.add(BigInteger.valueOf(10000 - meet).multiply(chance(meet, days - 1, least)));
    }

    public int odds(int a, int b, int n, int k) {
        two(a, b);
        upTo(n, 3);
        upTo(k, 3);
        int meet = s.near(a, b) ? s.people.get(a).roams * s.people.get(b).roams : 0;
        return chance(meet, n, k).multiply(BigInteger.valueOf(10000))
                .divide(BigInteger.valueOf(10000).pow(n)).intValueExact();
    }

    public int twins() {
        return countPairs(p -> {
            Person a = s.people.get(p[0]);
            Person b = s.people.get(p[1]);
            return a.haunt == b.haunt && a.roams == b.roams && a.pay == b.pay;
        });
    }

    private int gain(int a, int b, int own, int others) {
        if (own == 1) {
            return s.guess[a][b] >= s.doubt ? 1 : 0;
        }
        return others == 1 ? -3 : s.people.get(a).pay - 2 * s.guess[a][b];
    }

    public int rests(int a, int b) {
        two(a, b);
        int bits = 0;
        for (int x = 0; x < 2; x++) {
            for (int y = 0; y < 2; y++) {
                if (gain(a, b, 1 - x, y) <= gain(a, b, x, y) && gain(b, a, 1 - y, x) <= gain(b, a, y, x)) {
                    bits += 1 << 2 * x + y;
                }
            }
        }
        return bits;
    }

    public int ahead(int a, int b, int n) {
        two(a, b);
        upTo(n, 100);
        State t = s.copy();
        t.rings(n, false);
        return t.guess[a][b];
    }

    public int trial(int n, boolean rang) {
        upTo(n, 100);
        State t = s.copy();
        int rings = t.rings(n, true);
        return rang ? rings : t.knowing();
    }

    public int span(int n, boolean most) {
        upTo(n, 100);
        TreeSet<Integer> found = new TreeSet<>();
        for (int seed = 1; seed <= 6; seed++) {
            State t = s.copy();
            t.seed = seed;
            t.rings(n, true);
            found.add(t.knowing());
        }
        return most ? found.last() : found.first();
    }

    public int led(int person, boolean day) {
        person(person);
        List<int[]> rows = new ArrayList<>(s.log);
        rows.removeIf(r -> r[2] != person && r[3] != person);
        return !day ? rows.size() : rows.isEmpty() ? NONE : rows.get(0)[0];
    }

    public int log(int ago, int what) {
        if (what < 0 || what > 4) {
            throw new NoSuchElementException();
        }
        return ago < 0 || ago >= s.log.size() ? -2 : s.log.get(ago)[what];
    }

    public int seed(int n) {
        int was = s.seed;
        s.seed = n;
        return was;
    }

    public boolean undo() {
        if (past.isEmpty()) {
            return false;
        }
        s = past.removeLast();
        return true;
    }

    public void image() {
        kept = s.copy();
    }

    public boolean back() {
        if (kept == null) {
            return false;
        }
        s = kept.copy();
        past.clear();
        return true;
    }

    public int count(int what) {
        switch (what) {
            case 0: return s.people.size();
            case 1: return s.texts;
            case 2: return s.law == null ? NONE : s.law.size();
            case 3: return s.hour;
            case 4: return s.day;
            case 5: return s.doubt;
            case 6: return s.knowing();
            case 7: return bits(p -> s.people.get(p).sworn);
            case 8: return (int) Arrays.stream(s.plan).flatMapToInt(Arrays::stream).filter(p -> p != NONE).count();
            case 9: return Arrays.stream(s.guess).flatMapToInt(Arrays::stream).sum();
            case 10: return s.log.size();
            case 11: return past.size();
            default: return NONE;
        }
    }
}

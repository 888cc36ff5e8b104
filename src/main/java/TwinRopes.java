import java.util.Arrays;
import java.util.NoSuchElementException;

/** A bell that is heard only if two pull it from two lofts who do not know of each other. */
public final class TwinRopes {
    public static final int NONE = -1;

    private static final int MOST_PEOPLE = 8;
    private static final int HAUNTS = 8;
    private static final int LOFTS = 2;
    private static final int DAY_HOURS = 12;
    private static final int MOST_DAY = 9999;
    private static final int MOST_TEXTS = 12;
    private static final int MOST_AHEAD = 100;
    private static final int MOST_AT_ONCE = 120;
    private static final int MOST_STEPS = 8;
    private static final int MOST_PAY = 99;
    private static final int MOST_ODDS = 3;
    private static final int LAST_SEED = 6;
    private static final int WITHOUT_ROW = -2;

    /** A GUESS of this much is to KNOW. */
    private static final int KNOWS = 9;

    private static final int NOBODY = 0;
    private static final int ALONE = 1;
    private static final int DUMB = 2;
    private static final int CRACKED = 3;
    private static final int RINGS = 4;

    private final Tape tape = new Tape();
    private final Town town = new Town();
    private final Town scratch = new Town();
    private final Town kept = new Town();
    private final Memory memory = new Memory();
    private final TownText townText = new TownText(tape, scratch);
    private final LawText lawText = new LawText(tape);
    private final Two two = new Two();
    private final Pairs pairs = new Pairs(town, two);
    private final Sets sets = new Sets();
    private Law law = new Law();
    private Law keptLaw = law;
    private boolean hasImage;
    private int fault = NONE;

    public TwinRopes() {
    }

    // ---- the TAPE and the texts

    public int feed(int a, int b, int c, int d, int e) {
        if (!tape.hasRoomForFive()) {
            return NONE;
        }
        tape.add(a);
        tape.add(b);
        tape.add(c);
        tape.add(d);
        tape.add(e);
        return tape.size();
    }

    public boolean end(int n) {
        return tape.shorten(n);
    }

    public int town() throws IllegalArgumentException, UnsupportedOperationException {
        scratch.take(town);
        fault = townText.firstWrong(TownText.MOST_LINES);
        tape.clear();
        if (fault != NONE) {
            throw new IllegalArgumentException("the text is wrong");
        }
        if (town.texts >= MOST_TEXTS) {
            throw new UnsupportedOperationException("there are 12 texts");
        }
        town.take(scratch);
        town.texts++;
        memory.clear();
        return town.texts;
    }

    public int law() throws IllegalArgumentException {
        lawText.clear();
        fault = lawText.firstWrong(LawText.MOST_LINES);
        tape.clear();
        if (fault != NONE) {
            throw new IllegalArgumentException("the text is wrong");
        }
        law = new Law(lawText);
        memory.clear();
        return law.lines;
    }

    public int fault() {
        return fault;
    }

    // ---- what there is

    public int person(int person, int what) throws IndexOutOfBoundsException, NoSuchElementException {
        needPerson(person);
        switch (what) {
            case 0: return town.hauntOf(person);
            case 1: return town.roamsOf(person);
            case 2: return town.payOf(person);
            case 3: return town.isSworn(person) ? 1 : 0;
            case 4: return town.busyHours(person);
            case 5: return town.dueOf(person);
            case 6: return town.keptFrom(person);
            case 7: return town.log.shareOf(person);
            case 8: return town.nearBits(person);
            case 9: return town.guessedBits(person, KNOWS);
            default: throw new NoSuchElementException("there is no such thing of a person");
        }
    }

    public int guessed(int person, int other) throws IndexOutOfBoundsException, IllegalArgumentException {
        needTwo(person, other);
        return town.guessOf(person, other);
    }

    public int rung(int person, int other) throws IndexOutOfBoundsException, IllegalArgumentException {
        needTwo(person, other);
        return town.rungOf(person, other);
    }

    public int sounds(int person, int other) throws IndexOutOfBoundsException, IllegalArgumentException {
        needTwo(person, other);
        two.see(town, person, other);
        return two.heardBy(law, false);
    }

    public int lets(int person, int other) throws IndexOutOfBoundsException, IllegalArgumentException {
        needTwo(person, other);
        two.see(town, person, other);
        return law.amountFor(Law.TELL, two, false);
    }

    public int both(int person, int other) throws IndexOutOfBoundsException, IllegalArgumentException {
        needTwo(person, other);
        return town.toneOf(person, other);
    }

    public int plan(int loft, int hour) throws IndexOutOfBoundsException {
        needLoft(loft);
        needHour(hour);
        return town.planned(loft, hour);
    }

    public int tone(int hour) throws IndexOutOfBoundsException {
        needHour(hour);
        return town.plannedTone(hour);
    }

    // ---- acts

    public int rope(int loft, int hour, int person) throws IndexOutOfBoundsException, IllegalStateException {
        needLoft(loft);
        needHour(hour);
        needPerson(person);
        if (town.planned(1 - loft, hour) == person) {
            throw new IllegalStateException("that one is at the other rope");
        }
        memory.remember(town);
        int was = town.planned(loft, hour);
        town.put(loft, hour, person);
        return was;
    }

    public int off(int loft, int hour) throws IndexOutOfBoundsException, IllegalStateException {
        needLoft(loft);
        needHour(hour);
        int was = town.planned(loft, hour);
        if (was == NONE) {
            throw new IllegalStateException("nobody is at that rope");
        }
        memory.remember(town);
        town.put(loft, hour, NONE);
        return was;
    }

    public int change(int hour) throws IndexOutOfBoundsException {
        needHour(hour);
        memory.remember(town);
        int was = town.planned(0, hour);
        town.put(0, hour, town.planned(1, hour));
        town.put(1, hour, was);
        return town.planned(0, hour);
    }

    public boolean swear(int person, boolean is) throws IndexOutOfBoundsException {
        needPerson(person);
        memory.remember(town);
        boolean was = town.isSworn(person);
        town.setSworn(person, is);
        return was != is;
    }

    public int move(int person, int haunt) throws IndexOutOfBoundsException {
        needPerson(person);
        if (haunt < 0 || haunt >= HAUNTS) {
            throw new IndexOutOfBoundsException("there is no such haunt");
        }
        memory.remember(town);
        int was = town.hauntOf(person);
        town.setHaunt(person, haunt);
        return was;
    }

    public int guess(int person, int other, int n) throws IndexOutOfBoundsException, IllegalArgumentException {
        needTwo(person, other);
        needNumber(n, 0, KNOWS);
        memory.remember(town);
        int was = town.guessOf(person, other);
        town.setGuess(person, other, n);
        return was;
    }

    public int forget(int person) throws IndexOutOfBoundsException {
        needPerson(person);
        memory.remember(town);
        int was = town.guessesBy(person) + town.guessesOn(person);
        town.clearGuesses(person);
        return was;
    }

    public int hours(int n) throws IllegalArgumentException {
        needNumber(n, 1, MOST_AT_ONCE);
        memory.remember(town);
        return town.passHours(n, true, law, two);
    }

    // ---- pairs

    public int chimes(int n) throws IllegalArgumentException {
        needNumber(n, 0, MOST_AHEAD);
        scratch.take(town);
        return scratch.passHours(n, false, law, two);
    }

    public int lasts(int person, int other) throws IndexOutOfBoundsException, IllegalArgumentException {
        needTwo(person, other);
        return pairs.timesOf(person, other, law);
    }

    public int longest() {
        return pairs.longestPair(law);
    }

    public int teams(int person) throws IndexOutOfBoundsException {
        if (person != NONE) {
            needPerson(person);
        }
        pairs.weighFor(sets, law);
        sets.putTogether(town);
        return person == NONE ? sets.mostTogether() : sets.mateOf(person);
    }

    public int fresh() {
        return pairs.freshPairs();
    }

    // ---- sets of people

    public int crowd() {
        sets.guessRows(town, KNOWS);
        return sets.greatestApart();
    }

    public int go() {
        sets.guessRows(town, KNOWS);
        return sets.fewestGone();
    }

    public int cut(boolean many) {
        sets.ringRows(town);
        int best = sets.bestParting();
        return many ? sets.across(best) : best;
    }

    public int heads() {
        sets.guessRows(town, town.doubt);
        return sets.fewestHeads();
    }

    public int depth(int person, int k) throws IndexOutOfBoundsException, IllegalArgumentException {
        needPerson(person);
        needNumber(k, 0, MOST_STEPS);
        sets.guessRows(town, 1);
        return sets.reached(person, k);
    }

    public int circle(int person) throws IndexOutOfBoundsException {
        needPerson(person);
        sets.guessRows(town, 1);
        return sets.stepsBack(person);
    }

    // ---- what was heard

    public int pulled(boolean who) throws IllegalArgumentException {
        takeTold();
        pairs.findFitting(law);
        return who ? pairs.inAllFitting() : pairs.fitting();
    }

    public int listen() throws IllegalArgumentException {
        takeTold();
        pairs.findFitting(law);
        return pairs.bestHour();
    }

    // ---- pay, the plan, guesses

    public int cheap(int x) throws IllegalArgumentException {
        needNumber(x, 0, MOST_PAY);
        return pairs.cheapPairs(x);
    }

    public int cheapest() {
        return pairs.cheapestPair();
    }

    public int spoilt() {
        return town.spoiltHours();
    }

    public int mend(int hour) throws IndexOutOfBoundsException {
        needHour(hour);
        return town.isSpoilt(hour) ? town.leastMend(hour) : NONE;
    }

    public int bill() {
        return town.dueOfAll();
    }

    public int most() {
        return town.greatestGuessed();
    }

    public int nosy() {
        return town.greatestGuesser();
    }

    public int secret(int person, int other) throws IndexOutOfBoundsException, IllegalArgumentException {
        needTwo(person, other);
        scratch.take(town);
        for (int n = 0; n <= MOST_AHEAD; n++) {
            if (scratch.toneOf(person, other) == DUMB) {
                return n;
            }
            scratch.passHours(1, false, law, two);
        }
        return NONE;
    }

    public int odds(int person, int other, int n, int k) throws IndexOutOfBoundsException, IllegalArgumentException {
        needTwo(person, other);
        needNumber(n, 0, MOST_ODDS);
        needNumber(k, 0, MOST_ODDS);
        return pairs.oddsOf(person, other, n, k);
    }

    public int twins() {
        return pairs.alikePairs();
    }

    public int rests(int person, int other) throws IndexOutOfBoundsException, IllegalArgumentException {
        needTwo(person, other);
        return pairs.restingChoices(person, other);
    }

    // ---- hours to come

    public int ahead(int person, int other, int n) throws IndexOutOfBoundsException, IllegalArgumentException {
        needTwo(person, other);
        needNumber(n, 0, MOST_AHEAD);
        scratch.take(town);
        scratch.passHours(n, false, law, two);
        return scratch.guessOf(person, other);
    }

    public int trial(int n, boolean rang) throws IllegalArgumentException {
        needNumber(n, 0, MOST_AHEAD);
        scratch.take(town);
        int times = scratch.passHours(n, true, law, two);
        return rang ? times : scratch.knowingPairs();
    }

    public int span(int n, boolean most) throws IllegalArgumentException {
        needNumber(n, 0, MOST_AHEAD);
        int best = NONE;
        for (int seed = 1; seed <= LAST_SEED; seed++) {
            scratch.take(town);
            scratch.seed = seed;
            scratch.passHours(n, true, law, two);
            int found = scratch.knowingPairs();
            if (best == NONE || (most ? found > best : found < best)) {
                best = found;
            }
        }
        return best;
    }

    // ---- THE LOG, SEED, acts undone, THE IMAGE

    public int led(int person, boolean day) throws IndexOutOfBoundsException {
        needPerson(person);
        return day ? town.log.latestDayOf(person) : town.log.rowsOf(person);
    }

    public int log(int ago, int what) throws NoSuchElementException {
        if (what < Log.DAY || what > Log.TONE) {
            throw new NoSuchElementException("there is no such thing of a row");
        }
        return town.log.hasRow(ago) ? town.log.partOf(ago, what) : WITHOUT_ROW;
    }

    public int seed(int n) {
        int was = town.seed;
        town.seed = n;
        return was;
    }

    public boolean undo() {
        return memory.recall(town);
    }

    public void image() {
        kept.take(town);
        keptLaw = law;
        hasImage = true;
    }

    public boolean back() {
        if (!hasImage) {
            return false;
        }
        town.take(kept);
        law = keptLaw;
        memory.clear();
        return true;
    }

    public int count(int what) {
        switch (what) {
            case 0: return town.people;
            case 1: return town.texts;
            case 2: return law.lines;
            case 3: return town.hour;
            case 4: return town.day;
            case 5: return town.doubt;
            case 6: return town.knowingPairs();
            case 7: return town.sworn;
            case 8: return town.timesPlanned();
            case 9: return town.guessesOfAll();
            case 10: return town.log.size;
            case 11: return memory.size;
            default: return NONE;
        }
    }

    // ---- what a call needs

    private void needPerson(int person) {
        if (!town.has(person)) {
            throw new IndexOutOfBoundsException("there is no such person");
        }
    }

    private void needTwo(int person, int other) {
        needPerson(person);
        needPerson(other);
        if (person == other) {
            throw new IllegalArgumentException("both are one");
        }
    }

    private static void needLoft(int loft) {
        if (loft < 0 || loft >= LOFTS) {
            throw new IndexOutOfBoundsException("there is no such loft");
        }
    }

    private static void needHour(int hour) {
        if (hour < 0 || hour >= DAY_HOURS) {
            throw new IndexOutOfBoundsException("there is no such hour");
        }
    }

    private static void needNumber(int n, int least, int greatest) {
        if (n < least || n > greatest) {
            throw new IllegalArgumentException("the number is none");
        }
    }

    private void takeTold() {
        boolean right = pairs.takeTold(tape);
        tape.clear();
        if (!right) {
            throw new IllegalArgumentException("the tape does not tell hours");
        }
    }

    private static boolean isIn(int bits, int number) {
        return (bits >> number & 1) != 0;
    }

    /** TONE of two at the ropes, by what each GUESSES of the other one. */
    private static int toneBy(int guess, int back, int doubt) {
        int greater = Math.max(guess, back);
        if (greater >= KNOWS) {
            return DUMB;
        }
        return greater >= doubt ? CRACKED : RINGS;
    }

    /** The bytes that come ahead of a call that uses them up. */
    private static final class Tape {
        static final int MOST = 400;
        private static final int FIVE_NUMBERS = 20;

        private final int[] bytes = new int[MOST];
        private int length;

        int size() {
            return length;
        }

        int at(int index) {
            return index >= 0 && index < length && index < MOST ? bytes[index] : NONE;
        }

        boolean hasRoomForFive() {
            return length + FIVE_NUMBERS <= MOST;
        }

        void add(int number) {
            for (int shift = 24; shift >= 0 && length >= 0 && length < MOST; shift -= 8) {
                bytes[length] = number >>> shift & 255;
                length++;
            }
        }

        boolean shorten(int n) {
            if (n < 0 || n > length) {
                return false;
            }
            length = n;
            return true;
        }

        void clear() {
            length = 0;
        }
    }

    /** A text of LINES on the TAPE, split into its things: words, numbers and single signs. */
    private abstract static class Text {
        private static final int END = 0;
        private static final int WORD = 1;
        private static final int NUMBER = 2;
        private static final int SIGN = 3;
        /** A word is kept as one number of 5 bits a letter; one of more letters is none of any text. */
        private static final int MOST_LETTERS = 6;
        private static final int LETTER_BITS = 5;
        private static final int NO_WORD = 0;
        private static final int MOST_DIGITS = 3;
        private static final int NO_NUMBER = 1000;

        /** As many things as bytes, and the end, which is never taken. */
        private static final int LENGTH = Tape.MOST + 1;

        private final Tape tape;
        private final int[] kinds = new int[LENGTH];
        private final int[] values = new int[LENGTH];
        private final int[] begins = new int[LENGTH];
        private int things;
        private int next;
        private int taken;

        Text(Tape tape) {
            this.tape = tape;
        }

        /** Whether a LINE stands there; if not, the text stays at what cannot stand there. */
        abstract boolean takeLine();

        /** The first wrong byte: the begin of what comes next, or the text's length, if more must come. */
        int firstWrong(int mostLines) {
            split();
            if (isAtEnd()) {
                return NONE;
            }
            for (int line = 0; line < mostLines; line++) {
                if (!takeLine()) {
                    return place();
                }
                if (isAtEnd()) {
                    return NONE;
                }
                if (!takeSign(';')) {
                    return place();
                }
            }
            return place();
        }

        // ---- taking things

        private boolean isAtEnd() {
            return next < 0 || next >= LENGTH || kinds[next] == END;
        }

        private int place() {
            return next >= 0 && next < LENGTH ? begins[next] : NONE;
        }

        boolean isNumber(int n) {
            return next >= 0 && next < LENGTH && kinds[next] == NUMBER && values[next] == n;
        }

        int lastTaken() {
            return taken;
        }

        boolean takeNumber(int least, int greatest) {
            if (next < 0 || next >= LENGTH || kinds[next] != NUMBER
                    || values[next] < least || values[next] > greatest) {
                return false;
            }
            taken = values[next];
            next++;
            return true;
        }

        boolean takeSign(char sign) {
            if (next < 0 || next >= LENGTH || kinds[next] != SIGN || values[next] != sign) {
                return false;
            }
            next++;
            return true;
        }

        boolean takeWord(String word) {
            int value = 0;
            for (int i = 0; i < word.length(); i++) {
                value = value << LETTER_BITS | word.charAt(i) - 'a' + 1;
            }
            if (next < 0 || next >= LENGTH || kinds[next] != WORD || values[next] != value) {
                return false;
            }
            next++;
            return true;
        }

        // ---- splitting

        private void split() {
            things = 0;
            next = 0;
            int at = 0;
            // each step passes one byte at least
            for (int i = 0; i < Tape.MOST && at < tape.size(); i++) {
                at = tape.at(at) == ' ' ? at + 1 : addThing(at);
            }
            add(END, 0, tape.size());
        }

        private int addThing(int begin) {
            int sign = tape.at(begin);
            if (isLetter(sign)) {
                return addWord(begin);
            }
            if (isDigit(sign)) {
                return addNumber(begin);
            }
            add(SIGN, sign, begin);
            return begin + 1;
        }

        private int addWord(int begin) {
            int value = 0;
            int at = begin;
            while (at < tape.size() && isLetter(tape.at(at))) {
                value = at - begin < MOST_LETTERS ? value << LETTER_BITS | tape.at(at) - 'a' + 1 : NO_WORD;
                at++;
            }
            add(WORD, value, begin);
            return at;
        }

        private int addNumber(int begin) {
            int value = 0;
            int at = begin;
            while (at < tape.size() && isDigit(tape.at(at))) {
                value = at - begin < MOST_DIGITS ? 10 * value + tape.at(at) - '0' : NO_NUMBER;
                at++;
            }
            add(NUMBER, value, begin);
            return at;
        }

        private void add(int kind, int value, int begin) {
            if (things >= 0 && things < LENGTH) {
                kinds[things] = kind;
                values[things] = value;
                begins[things] = begin;
                things++;
            }
        }

        private static boolean isLetter(int sign) {
            return sign >= 'a' && sign <= 'z';
        }

        private static boolean isDigit(int sign) {
            return sign >= '0' && sign <= '9';
        }
    }

    /** A text of THE TOWN, put LINE by LINE into a town that is thrown away if the text is wrong. */
    private static final class TownText extends Text {
        static final int MOST_LINES = 14;
        private static final int MOST_ROAMS = 100;
        private static final int MOST_DOUBT = 9;
        private static final int MOST_TOLD_DAY = 999;

        private final Town town;

        TownText(Tape tape, Town town) {
            super(tape);
            this.town = town;
        }

        boolean takeLine() {
            if (town.people < MOST_PEOPLE && takeWord("person")) {
                return takePersonLine();
            }
            if (takeWord("guess")) {
                return takeGuessLine();
            }
            if (takeWord("rope")) {
                return takeRopeLine();
            }
            if (takeWord("doubt")) {
                return takeDoubtLine();
            }
            if (takeWord("hour")) {
                return takeHourLine();
            }
            return takeWord("day") && takeDayLine();
        }

        private boolean takePersonLine() {
            if (!takeWord("at") || !takeNumber(0, HAUNTS - 1)) {
                return false;
            }
            int haunt = lastTaken();
            int roams = 0;
            if (takeWord("roams")) {
                if (!takeNumber(0, MOST_ROAMS)) {
                    return false;
                }
                roams = lastTaken();
            }
            int pay = 0;
            if (takeWord("pay")) {
                if (!takeNumber(0, MOST_PAY)) {
                    return false;
                }
                pay = lastTaken();
            }
            town.addPerson(haunt, roams, pay, takeWord("sworn"));
            return true;
        }

        private boolean takeGuessLine() {
            if (!takePerson()) {
                return false;
            }
            int person = lastTaken();
            if (isNumber(person) || !takePerson()) {
                return false;
            }
            int other = lastTaken();
            if (!takeNumber(0, KNOWS)) {
                return false;
            }
            town.setGuess(person, other, lastTaken());
            return true;
        }

        private boolean takeRopeLine() {
            if (!takeNumber(0, LOFTS - 1)) {
                return false;
            }
            int loft = lastTaken();
            if (!takeNumber(0, DAY_HOURS - 1)) {
                return false;
            }
            int hour = lastTaken();
            if (isNumber(town.planned(1 - loft, hour)) || !takePerson()) {
                return false;
            }
            town.put(loft, hour, lastTaken());
            return true;
        }

        private boolean takeDoubtLine() {
            if (!takeNumber(1, MOST_DOUBT)) {
                return false;
            }
            town.doubt = lastTaken();
            return true;
        }

        private boolean takeHourLine() {
            if (!takeNumber(0, DAY_HOURS - 1)) {
                return false;
            }
            town.hour = lastTaken();
            return true;
        }

        private boolean takeDayLine() {
            if (!takeNumber(0, MOST_TOLD_DAY)) {
                return false;
            }
            town.day = lastTaken();
            return true;
        }

        private boolean takePerson() {
            return takeNumber(0, town.people - 1);
        }
    }

    /** A text of THE LAW, put into rows that are used again for the next one. */
    private static final class LawText extends Text {
        static final int MOST_LINES = 12;
        private static final int MOST_AMOUNT = 30;
        private static final int MOST_NUMBER = 999;
        private static final int MOST_DEEP = 6;

        private final int[] lineKinds = new int[MOST_LINES];
        private final int[] amounts = new int[MOST_LINES];
        private final int[] ends = new int[MOST_LINES];
        /** Conditions, each step behind what it works on; no thing on the TAPE makes two steps. */
        private final int[] steps = new int[Tape.MOST];
        private int lines;
        private int length;

        LawText(Tape tape) {
            super(tape);
        }

        void clear() {
            lines = 0;
            length = 0;
        }

        boolean takeLine() {
            int line = lines;
            int kind = takeKind();
            if (kind == NONE || line < 0 || line >= MOST_LINES || !takeNumber(0, MOST_AMOUNT)) {
                return false;
            }
            lineKinds[line] = kind;
            amounts[line] = lastTaken();
            if (takeWord("if") && !takeCondition(0)) {
                return false;
            }
            ends[line] = length;
            lines = line + 1;
            return true;
        }

        private int takeKind() {
            if (takeWord("guess")) {
                return Law.GUESS;
            }
            if (takeWord("hush")) {
                return Law.HUSH;
            }
            return takeWord("tell") ? Law.TELL : NONE;
        }

        private boolean takeCondition(int depth) {
            boolean right = takeAtom(depth);
            boolean orWaits = false;
            for (int i = 0; right && i < Tape.MOST; i++) {
                if (takeWord("and")) {
                    right = takeAtom(depth);
                    addStep(Law.AND);
                } else if (takeWord("or")) {
                    addStepIf(orWaits, Law.OR);
                    orWaits = true;
                    right = takeAtom(depth);
                } else {
                    break;
                }
            }
            addStepIf(orWaits, Law.OR);
            return right;
        }

        private boolean takeAtom(int depth) {
            int within = depth;
            while (within < MOST_DEEP && takeWord("not")) {
                within++;
            }
            boolean right;
            if (within < MOST_DEEP && takeSign('(')) {
                right = takeCondition(within + 1) && takeSign(')');
            } else if (takeFlag()) {
                right = true;
            } else {
                right = takeSum();
                boolean less = right && takeSign('<');
                right = right && (less || takeSign('>')) && takeSum();
                addStep(less ? Law.LESS : Law.MORE);
            }
            for (int i = depth; i < within; i++) {
                addStep(Law.NOT);
            }
            return right;
        }

        private boolean takeFlag() {
            if (takeWord("sworn")) {
                addStep(Two.SWORN);
            } else if (takeWord("near")) {
                addStep(Two.NEAR);
            } else if (takeWord("rang")) {
                addStep(Two.RANG);
            } else {
                return false;
            }
            return true;
        }

        private boolean takeSum() {
            boolean right = takePart();
            for (int i = 0; right && i < Tape.MOST && takeSign('+'); i++) {
                right = takePart();
                addStep(Law.PLUS);
            }
            return right;
        }

        private boolean takePart() {
            if (takeNumber(0, MOST_NUMBER)) {
                addStep(Law.NUMBER + lastTaken());
            } else if (takeWord("one")) {
                addStep(Two.ONE);
            } else if (takeWord("other")) {
                addStep(Two.OTHER);
            } else if (takeWord("guess")) {
                addStep(Two.GUESS);
            } else if (takeWord("back")) {
                addStep(Two.BACK);
            } else if (takeWord("rung")) {
                addStep(Two.RUNG);
            } else if (takeWord("hour")) {
                addStep(Two.HOUR);
            } else if (takeWord("day")) {
                addStep(Two.DAY);
            } else {
                return false;
            }
            return true;
        }

        private void addStepIf(boolean is, int step) {
            if (is) {
                addStep(step);
            }
        }

        private void addStep(int step) {
            if (length >= 0 && length < steps.length) {
                steps[length] = step;
                length++;
            }
        }
    }

    /** THE LAW as it was read; it never changes, so that THE IMAGE may share it. */
    private static final class Law {
        static final int GUESS = 0;
        static final int HUSH = 1;
        static final int TELL = 2;

        /** Steps: below PLUS they are values of a Two, from NUMBER on they are numbers. */
        static final int PLUS = 16;
        static final int LESS = 17;
        static final int MORE = 18;
        static final int AND = 19;
        static final int OR = 20;
        static final int NOT = 21;
        static final int NUMBER = 32;

        private static final int SOUNDS_WITHOUT = 1;
        private static final int LETS_OUT_WITHOUT = 2;
        /** Two wait in each of 7 conditions within one another, three more in a comparison. */
        private static final int MOST_WAITING = 20;

        private final int lines;
        private final int[] kinds;
        private final int[] amounts;
        private final int[] ends;
        private final int[] steps;
        /** Room for what is worked out, of no meaning between two calls. */
        private final int[] waiting = new int[MOST_WAITING];

        /** No text at all, which is another thing than a text without a LINE. */
        Law() {
            lines = NONE;
            kinds = new int[LawText.MOST_LINES];
            amounts = new int[LawText.MOST_LINES];
            ends = new int[LawText.MOST_LINES];
            steps = new int[0];
        }

        Law(LawText text) {
            lines = text.lines;
            kinds = Arrays.copyOf(text.lineKinds, LawText.MOST_LINES);
            amounts = Arrays.copyOf(text.amounts, LawText.MOST_LINES);
            ends = Arrays.copyOf(text.ends, LawText.MOST_LINES);
            steps = Arrays.copyOf(text.steps, Math.max(text.length, 0));
        }

        /** Sum of the LINES of a kind that hold for one of two, less that of the hush LINES. */
        int amountFor(int kind, Two two, boolean turned) {
            if (lines == NONE) {
                return kind == TELL ? LETS_OUT_WITHOUT : SOUNDS_WITHOUT;
            }
            int sum = 0;
            int from = 0;
            for (int line = 0; line < lines && line < LawText.MOST_LINES; line++) {
                boolean hushes = kinds[line] == HUSH;
                if ((hushes || kinds[line] == kind) && holds(from, ends[line], two, turned)) {
                    sum += hushes ? -amounts[line] : amounts[line];
                }
                from = ends[line];
            }
            return sum;
        }

        private boolean holds(int from, int to, Two two, boolean turned) {
            if (from >= to) {
                return true;
            }
            int top = 0;
            for (int i = Math.max(from, 0); i < to && i < steps.length; i++) {
                int step = steps[i];
                if (step < PLUS || step >= NUMBER) {
                    if (top < waiting.length) {
                        waiting[top] = step >= NUMBER ? step - NUMBER : two.value(step, turned);
                        top++;
                    }
                } else if (step == NOT) {
                    if (top > 0) {
                        waiting[top - 1] = 1 - waiting[top - 1];
                    }
                } else if (top > 1) {
                    top--;
                    waiting[top - 1] = joined(step, waiting[top - 1], waiting[top]);
                }
            }
            return top > 0 && waiting[top - 1] != 0;
        }

        private static int joined(int step, int left, int right) {
            switch (step) {
                case PLUS: return left + right;
                case LESS: return left < right ? 1 : 0;
                case MORE: return left > right ? 1 : 0;
                case AND: return left & right;
                default: return left | right;
            }
        }
    }

    /** Two who pull or meet, and all that THE LAW may ask of them. */
    private static final class Two {
        /** Values below RUNG stand in twos, so that the other one's of each is the one beside it. */
        static final int ONE = 0;
        static final int OTHER = 1;
        static final int GUESS = 2;
        static final int BACK = 3;
        static final int SWORN = 4;
        static final int OTHER_SWORN = 5;
        static final int RUNG = 6;
        static final int HOUR = 7;
        static final int DAY = 8;
        static final int NEAR = 9;
        static final int RANG = 10;
        private static final int VALUES = 11;
        private static final int MOST_RUNG = 99;

        private final int[] values = new int[VALUES];
        private int doubt;

        void see(Town town, int one, int other) {
            values[ONE] = one;
            values[OTHER] = other;
            values[GUESS] = town.guessOf(one, other);
            values[BACK] = town.guessOf(other, one);
            values[SWORN] = town.isSworn(one) ? 1 : 0;
            values[OTHER_SWORN] = town.isSworn(other) ? 1 : 0;
            values[RUNG] = town.rungOf(one, other);
            values[HOUR] = town.hour;
            values[DAY] = town.day;
            values[NEAR] = town.areNear(one, other) ? 1 : 0;
            values[RANG] = 0;
            doubt = town.doubt;
        }

        /** A value as the first one has it, or turned: as the other one has it. */
        int value(int which, boolean turned) {
            int at = turned && which < RUNG ? which ^ 1 : which;
            return at >= 0 && at < VALUES ? values[at] : 0;
        }

        int toneNow() {
            return toneBy(values[GUESS], values[BACK], doubt);
        }

        int heardBy(Law law, boolean turned) {
            values[RANG] = toneNow() == RINGS ? 1 : 0;
            return law.amountFor(Law.GUESS, this, turned);
        }

        /** Both pull: (a) of an HOUR; its TONE. */
        int pullOnce(Law law) {
            int tone = toneNow();
            int heard = heardBy(law, false);
            addGuesses(heard, heardBy(law, true));
            if (tone == RINGS) {
                values[RUNG] = Math.min(values[RUNG] + 1, MOST_RUNG);
            }
            return tone;
        }

        void meetOnce(Law law) {
            int told = law.amountFor(Law.TELL, this, false);
            addGuesses(told, law.amountFor(Law.TELL, this, true));
        }

        /** The same two, an HOUR later. */
        void passHour() {
            values[HOUR]++;
            if (values[HOUR] >= DAY_HOURS) {
                values[HOUR] = 0;
                values[DAY] = Math.min(values[DAY] + 1, MOST_DAY);
            }
        }

        private void addGuesses(int more, int moreBack) {
            values[GUESS] = Math.max(0, Math.min(KNOWS, values[GUESS] + more));
            values[BACK] = Math.max(0, Math.min(KNOWS, values[BACK] + moreBack));
        }
    }

    /** All that changes: people, what they guess, THE PLAN, the time, SEED and THE LOG. */
    private static final class Town {
        private static final int FIRST_DOUBT = 5;

        private final int[] haunts = new int[MOST_PEOPLE];
        private final int[] roams = new int[MOST_PEOPLE];
        private final int[] pays = new int[MOST_PEOPLE];
        private final int[] guesses = new int[MOST_PEOPLE * MOST_PEOPLE];
        private final int[] rungs = new int[MOST_PEOPLE * MOST_PEOPLE];
        private final int[] plan = new int[LOFTS * DAY_HOURS];
        private final Log log = new Log();
        private int people;
        private int sworn;
        private int hour;
        private int day;
        private int doubt = FIRST_DOUBT;
        private int seed = 1;
        private int texts;

        Town() {
            Arrays.fill(plan, NONE);
        }

        void take(Town from) {
            System.arraycopy(from.haunts, 0, haunts, 0, MOST_PEOPLE);
            System.arraycopy(from.roams, 0, roams, 0, MOST_PEOPLE);
            System.arraycopy(from.pays, 0, pays, 0, MOST_PEOPLE);
            System.arraycopy(from.guesses, 0, guesses, 0, MOST_PEOPLE * MOST_PEOPLE);
            System.arraycopy(from.rungs, 0, rungs, 0, MOST_PEOPLE * MOST_PEOPLE);
            System.arraycopy(from.plan, 0, plan, 0, LOFTS * DAY_HOURS);
            log.take(from.log);
            people = from.people;
            sworn = from.sworn;
            hour = from.hour;
            day = from.day;
            doubt = from.doubt;
            seed = from.seed;
            texts = from.texts;
        }

        // ---- people

        boolean has(int person) {
            return person >= 0 && person < people && person < MOST_PEOPLE;
        }

        void addPerson(int haunt, int roam, int pay, boolean isSworn) {
            if (people < 0 || people >= MOST_PEOPLE) {
                return;
            }
            haunts[people] = haunt;
            roams[people] = roam;
            pays[people] = pay;
            people++;
            setSworn(people - 1, isSworn);
        }

        int hauntOf(int person) {
            return has(person) ? haunts[person] : NONE;
        }

        void setHaunt(int person, int haunt) {
            if (has(person)) {
                haunts[person] = haunt;
            }
        }

        int roamsOf(int person) {
            return has(person) ? roams[person] : 0;
        }

        int payOf(int person) {
            return has(person) ? pays[person] : 0;
        }

        boolean isSworn(int person) {
            return has(person) && isIn(sworn, person);
        }

        void setSworn(int person, boolean is) {
            if (has(person)) {
                sworn = is ? sworn | 1 << person : sworn & ~(1 << person);
            }
        }

        boolean areNear(int person, int other) {
            return hauntOf(person) == hauntOf(other);
        }

        boolean areAlike(int person, int other) {
            return areNear(person, other) && roamsOf(person) == roamsOf(other) && payOf(person) == payOf(other);
        }

        int nearBits(int person) {
            int bits = 0;
            for (int other = 0; other < people; other++) {
                if (other != person && areNear(person, other)) {
                    bits |= 1 << other;
                }
            }
            return bits;
        }

        // ---- guesses

        private static int cell(int person, int other) {
            if (person < 0 || person >= MOST_PEOPLE || other < 0 || other >= MOST_PEOPLE) {
                return NONE;
            }
            return MOST_PEOPLE * person + other;
        }

        int guessOf(int person, int other) {
            int cell = cell(person, other);
            return cell >= 0 ? guesses[cell] : 0;
        }

        void setGuess(int person, int other, int n) {
            int cell = cell(person, other);
            if (cell >= 0) {
                guesses[cell] = n;
            }
        }

        int rungOf(int person, int other) {
            int cell = cell(person, other);
            return cell >= 0 ? rungs[cell] : 0;
        }

        private void setRung(int person, int other, int n) {
            int cell = cell(person, other);
            if (cell >= 0) {
                rungs[cell] = n;
            }
        }

        void clearGuesses(int person) {
            for (int other = 0; other < people; other++) {
                setGuess(person, other, 0);
                setGuess(other, person, 0);
            }
        }

        int guessesBy(int person) {
            int sum = 0;
            for (int other = 0; other < people; other++) {
                sum += guessOf(person, other);
            }
            return sum;
        }

        int guessesOn(int person) {
            int sum = 0;
            for (int other = 0; other < people; other++) {
                sum += guessOf(other, person);
            }
            return sum;
        }

        int guessesOfAll() {
            int sum = 0;
            for (int person = 0; person < people; person++) {
                sum += guessesBy(person);
            }
            return sum;
        }

        /** Others of whom one GUESSES so much at least. */
        int guessedBits(int person, int least) {
            int bits = 0;
            for (int other = 0; other < people; other++) {
                if (other != person && guessOf(person, other) >= least) {
                    bits |= 1 << other;
                }
            }
            return bits;
        }

        /** Others with whom one would have TONE 4 now. */
        int ringingBits(int person) {
            int bits = 0;
            for (int other = 0; other < people; other++) {
                if (other != person && toneOf(person, other) == RINGS) {
                    bits |= 1 << other;
                }
            }
            return bits;
        }

        int keptFrom(int person) {
            int kept = 0;
            for (int other = 0; other < people; other++) {
                if (other != person && guessOf(other, person) == 0) {
                    kept++;
                }
            }
            return kept;
        }

        int greatestGuessed() {
            int best = NONE;
            int greatest = 0;
            for (int person = 0; person < people; person++) {
                int sum = guessesOn(person);
                if (sum > greatest) {
                    greatest = sum;
                    best = person;
                }
            }
            return best;
        }

        int greatestGuesser() {
            int best = NONE;
            int greatest = 0;
            for (int person = 0; person < people; person++) {
                int sum = guessesBy(person);
                if (sum > greatest) {
                    greatest = sum;
                    best = person;
                }
            }
            return best;
        }

        int knowingPairs() {
            int pairs = 0;
            for (int person = 0; person < people; person++) {
                for (int other = person + 1; other < people; other++) {
                    if (toneOf(person, other) == DUMB) {
                        pairs++;
                    }
                }
            }
            return pairs;
        }

        // ---- THE PLAN

        private static int slot(int loft, int hour) {
            if (loft < 0 || loft >= LOFTS || hour < 0 || hour >= DAY_HOURS) {
                return NONE;
            }
            return DAY_HOURS * loft + hour;
        }

        int planned(int loft, int hour) {
            int slot = slot(loft, hour);
            return slot >= 0 ? plan[slot] : NONE;
        }

        void put(int loft, int hour, int person) {
            int slot = slot(loft, hour);
            if (slot >= 0) {
                plan[slot] = person;
            }
        }

        int toneOf(int person, int other) {
            if (person == NONE || other == NONE) {
                return person == other ? NOBODY : ALONE;
            }
            return toneBy(guessOf(person, other), guessOf(other, person), doubt);
        }

        int plannedTone(int hour) {
            return toneOf(planned(0, hour), planned(1, hour));
        }

        boolean isSpoilt(int hour) {
            int tone = plannedTone(hour);
            return tone >= ALONE && tone <= CRACKED;
        }

        int spoiltHours() {
            int bits = 0;
            for (int hour = 0; hour < DAY_HOURS; hour++) {
                if (isSpoilt(hour)) {
                    bits |= 1 << hour;
                }
            }
            return bits;
        }

        int leastMend(int hour) {
            int first = planned(0, hour);
            int second = planned(1, hour);
            for (int person = 0; person < people; person++) {
                if (person == first || person == second) {
                    continue;
                }
                if (toneOf(person, second) == RINGS) {
                    return 2 * person;
                }
                if (toneOf(first, person) == RINGS) {
                    return 2 * person + 1;
                }
            }
            return NONE;
        }

        int busyHours(int person) {
            int bits = 0;
            for (int hour = 0; hour < DAY_HOURS; hour++) {
                if (planned(0, hour) == person || planned(1, hour) == person) {
                    bits |= 1 << hour;
                }
            }
            return bits;
        }

        int dueOf(int person) {
            return Integer.bitCount(busyHours(person)) * payOf(person);
        }

        int dueOfAll() {
            int sum = 0;
            for (int person = 0; person < people; person++) {
                sum += dueOf(person);
            }
            return sum;
        }

        int timesPlanned() {
            int times = 0;
            for (int slot = 0; slot < plan.length; slot++) {
                if (plan[slot] != NONE) {
                    times++;
                }
            }
            return times;
        }

        // ---- HOURS

        /** In how many of so many HOURS it RANG. */
        int passHours(int n, boolean meetings, Law law, Two two) {
            int rang = 0;
            for (int i = 0; i < n; i++) {
                if (passHour(meetings, law, two) == RINGS) {
                    rang++;
                }
            }
            return rang;
        }

        private int passHour(boolean meetings, Law law, Two two) {
            int first = planned(0, hour);
            int second = planned(1, hour);
            int tone = toneOf(first, second);
            if (tone > NOBODY) {
                log.add(day, hour, first, second, tone);
            }
            if (tone > ALONE) {
                two.see(this, first, second);
                two.pullOnce(law);
                takeFrom(two);
            }
            hour++;
            if (hour >= DAY_HOURS) {
                hour = 0;
                if (meetings) {
                    holdMeetings(law, two);
                }
                day = Math.min(day + 1, MOST_DAY);
            }
            return tone;
        }

        private void holdMeetings(Law law, Two two) {
            int out = drawWhoIsOut();
            for (int person = 0; person < people; person++) {
                for (int other = person + 1; other < people; other++) {
                    if (isIn(out, person) && isIn(out, other) && areNear(person, other)) {
                        two.see(this, person, other);
                        two.meetOnce(law);
                        takeFrom(two);
                    }
                }
            }
        }

        private int drawWhoIsOut() {
            int out = 0;
            for (int person = 0; person < people; person++) {
                if (draw() % 100 < roamsOf(person)) {
                    out |= 1 << person;
                }
            }
            return out;
        }

        private int draw() {
            seed = 1103515245 * seed + 12345;
            return seed >>> 16 & 32767;
        }

        private void takeFrom(Two two) {
            int one = two.value(Two.ONE, false);
            int other = two.value(Two.OTHER, false);
            int rung = two.value(Two.RUNG, false);
            setGuess(one, other, two.value(Two.GUESS, false));
            setGuess(other, one, two.value(Two.BACK, false));
            setRung(one, other, rung);
            setRung(other, one, rung);
        }
    }

    /** THE LOG: a ring of rows, each packed into one number, as every act remembered keeps a copy. */
    private static final class Log {
        static final int DAY = 0;
        static final int HOUR = 1;
        static final int FIRST = 2;
        static final int SECOND = 3;
        static final int TONE = 4;
        private static final int MOST = 60;

        private final int[] rows = new int[MOST];
        private int size;
        private int next;

        void take(Log from) {
            System.arraycopy(from.rows, 0, rows, 0, MOST);
            size = from.size;
            next = from.next;
        }

        void add(int day, int hour, int first, int second, int tone) {
            if (next < 0 || next >= MOST) {
                return;
            }
            rows[next] = day << 15 | hour << 11 | first + 1 << 7 | second + 1 << 3 | tone;
            next = next + 1 < MOST ? next + 1 : 0;
            size = Math.min(size + 1, MOST);
        }

        boolean hasRow(int ago) {
            return ago >= 0 && ago < size;
        }

        int partOf(int ago, int what) {
            int row = rowAt(ago);
            switch (what) {
                case DAY: return row >> 15;
                case HOUR: return row >> 11 & 15;
                case FIRST: return (row >> 7 & 15) - 1;
                case SECOND: return (row >> 3 & 15) - 1;
                default: return row & 7;
            }
        }

        private int rowAt(int ago) {
            int at = Math.floorMod(next - 1 - ago, MOST);
            return at >= 0 && at < MOST ? rows[at] : 0;
        }

        private boolean isOf(int ago, int person) {
            return partOf(ago, FIRST) == person || partOf(ago, SECOND) == person;
        }

        int rowsOf(int person) {
            int found = 0;
            for (int ago = 0; ago < size; ago++) {
                if (isOf(ago, person)) {
                    found++;
                }
            }
            return found;
        }

        int latestDayOf(int person) {
            for (int ago = 0; ago < size; ago++) {
                if (isOf(ago, person)) {
                    return partOf(ago, DAY);
                }
            }
            return NONE;
        }

        int shareOf(int person) {
            int all = 0;
            int own = 0;
            for (int ago = 0; ago < size; ago++) {
                if (partOf(ago, TONE) == RINGS) {
                    all++;
                    if (isOf(ago, person)) {
                        own++;
                    }
                }
            }
            return all > 0 ? 100 * own / all : 0;
        }
    }

    /** The towns ahead of the latest acts: a ring of them. */
    private static final class Memory {
        private static final int MOST = 12;

        private final Town[] towns = new Town[MOST];
        private int size;
        private int next;

        Memory() {
            for (int i = 0; i < MOST; i++) {
                towns[i] = new Town();
            }
        }

        void clear() {
            size = 0;
        }

        void remember(Town town) {
            Town slot = townAt(next);
            if (slot == null) {
                return;
            }
            slot.take(town);
            next = next + 1 < MOST ? next + 1 : 0;
            size = Math.min(size + 1, MOST);
        }

        boolean recall(Town town) {
            int latest = next > 0 ? next - 1 : MOST - 1;
            Town slot = townAt(latest);
            if (size <= 0 || slot == null) {
                return false;
            }
            town.take(slot);
            next = latest;
            size--;
            return true;
        }

        private Town townAt(int at) {
            return at >= 0 && at < MOST ? towns[at] : null;
        }
    }

    /** What is asked for of twos: a pair is told by one number, 8 times the lesser one and the other one. */
    private static final class Pairs {
        private static final int CODES = MOST_PEOPLE * MOST_PEOPLE;
        private static final int MOST_TIMES = 60;
        private static final int TOLD_HOURS = 31;
        private static final int MOST_TOLD_BYTES = 40;
        private static final int ALL_ODDS = 10000;
        private static final int PULLS_ALONE = -3;

        private final Town town;
        private final Two two;
        /** Of each pair that fits: the HOURS in which it RINGS, as bits, and who is in it, as bits. */
        private final int[] fitRings = new int[CODES];
        private final int[] fitPeople = new int[CODES];
        private int fits;
        private int heard;
        private int unheard;

        Pairs(Town town, Two two) {
            this.town = town;
            this.two = two;
        }

        private static int lesser(int pair) {
            return pair / MOST_PEOPLE;
        }

        private static int greater(int pair) {
            return pair % MOST_PEOPLE;
        }

        private boolean has(int pair) {
            return pair >= 0 && lesser(pair) < greater(pair) && town.has(greater(pair));
        }

        private boolean ringsNow(int pair) {
            return has(pair) && town.toneOf(lesser(pair), greater(pair)) == RINGS;
        }

        private int payOf(int pair) {
            return town.payOf(lesser(pair)) + town.payOf(greater(pair));
        }

        /** LASTS of two. */
        int timesOf(int person, int other, Law law) {
            two.see(town, person, other);
            int times = 0;
            while (times < MOST_TIMES && two.pullOnce(law) == RINGS) {
                two.passHour();
                times++;
            }
            return times;
        }

        int longestPair(Law law) {
            int best = NONE;
            int longest = NONE;
            for (int pair = 0; pair < CODES; pair++) {
                int times = has(pair) ? timesOf(lesser(pair), greater(pair), law) : NONE;
                if (times > longest) {
                    longest = times;
                    best = pair;
                }
            }
            return best;
        }

        void weighFor(Sets sets, Law law) {
            for (int pair = 0; pair < CODES; pair++) {
                if (has(pair)) {
                    sets.setWorth(lesser(pair), greater(pair), timesOf(lesser(pair), greater(pair), law));
                }
            }
        }

        int freshPairs() {
            int found = 0;
            for (int pair = 0; pair < CODES; pair++) {
                if (has(pair) && town.guessOf(lesser(pair), greater(pair)) == 0
                        && town.guessOf(greater(pair), lesser(pair)) == 0) {
                    found++;
                }
            }
            return found;
        }

        int alikePairs() {
            int found = 0;
            for (int pair = 0; pair < CODES; pair++) {
                if (has(pair) && town.areAlike(lesser(pair), greater(pair))) {
                    found++;
                }
            }
            return found;
        }

        int cheapPairs(int most) {
            int found = 0;
            for (int pair = 0; pair < CODES; pair++) {
                if (ringsNow(pair) && payOf(pair) <= most) {
                    found++;
                }
            }
            return found;
        }

        int cheapestPair() {
            int best = NONE;
            for (int pair = 0; pair < CODES; pair++) {
                if (ringsNow(pair) && (best == NONE || payOf(pair) < payOf(best))) {
                    best = pair;
                }
            }
            return best;
        }

        // ---- what was heard

        /** Whether the TAPE tells HOURS; an HOUR told both ways is no fault, but lets no pair fit. */
        boolean takeTold(Tape tape) {
            heard = 0;
            unheard = 0;
            int length = tape.size();
            if (length > MOST_TOLD_BYTES || length % 2 != 0) {
                return false;
            }
            for (int i = 0; i < length; i += 2) {
                int hour = tape.at(i);
                int rang = tape.at(i + 1);
                if (hour < 0 || hour >= TOLD_HOURS || rang < 0 || rang > 1) {
                    return false;
                }
                if (rang == 1) {
                    heard |= 1 << hour;
                } else {
                    unheard |= 1 << hour;
                }
            }
            return true;
        }

        void findFitting(Law law) {
            fits = 0;
            for (int pair = 0; pair < CODES; pair++) {
                if (!has(pair)) {
                    continue;
                }
                int rings = ringingHours(lesser(pair), greater(pair), law);
                if ((rings & heard) == heard && (rings & unheard) == 0 && fits >= 0 && fits < CODES) {
                    fitRings[fits] = rings;
                    fitPeople[fits] = 1 << lesser(pair) | 1 << greater(pair);
                    fits++;
                }
            }
        }

        private int ringingHours(int person, int other, Law law) {
            two.see(town, person, other);
            int bits = 0;
            for (int hour = 0; hour < TOLD_HOURS; hour++) {
                if (two.pullOnce(law) == RINGS) {
                    bits |= 1 << hour;
                }
                two.passHour();
            }
            return bits;
        }

        int fitting() {
            return fits;
        }

        int inAllFitting() {
            if (fits == 0) {
                return 0;
            }
            int bits = (1 << MOST_PEOPLE) - 1;
            for (int i = 0; i < fits && i < CODES; i++) {
                bits &= fitPeople[i];
            }
            return bits;
        }

        int bestHour() {
            if (fits < 2) {
                return NONE;
            }
            int best = NONE;
            int least = fits + 1;
            for (int hour = 0; hour < TOLD_HOURS; hour++) {
                int ringing = fittingThatRing(hour);
                int greaterPart = Math.max(ringing, fits - ringing);
                if (greaterPart < least) {
                    least = greaterPart;
                    best = hour;
                }
            }
            return best;
        }

        private int fittingThatRing(int hour) {
            int found = 0;
            for (int i = 0; i < fits && i < CODES; i++) {
                if (isIn(fitRings[i], hour)) {
                    found++;
                }
            }
            return found;
        }

        // ---- meetings and choices

        int oddsOf(int person, int other, int days, int least) {
            long meets = town.areNear(person, other) ? town.roamsOf(person) * town.roamsOf(other) : 0;
            long fitting = 0;
            for (int met = 0; met < 1 << days; met++) {
                int times = Integer.bitCount(met);
                if (times >= least) {
                    fitting += power(meets, times) * power(ALL_ODDS - meets, days - times);
                }
            }
            long all = power(ALL_ODDS, days);
            return all > 0 ? (int) (ALL_ODDS * fitting / all) : 0;
        }

        private static long power(long base, int times) {
            long product = 1;
            for (int i = 0; i < times; i++) {
                product *= base;
            }
            return product;
        }

        int restingChoices(int person, int other) {
            int bits = 0;
            for (int choice = 0; choice < 4; choice++) {
                boolean pulls = choice < 2;
                boolean otherPulls = choice % 2 == 0;
                if (gain(person, other, pulls, otherPulls) >= gain(person, other, !pulls, otherPulls)
                        && gain(other, person, otherPulls, pulls) >= gain(other, person, !otherPulls, pulls)) {
                    bits |= 1 << choice;
                }
            }
            return bits;
        }

        private int gain(int person, int other, boolean pulls, boolean otherPulls) {
            int guess = town.guessOf(person, other);
            if (!pulls) {
                return guess >= town.doubt ? 1 : 0;
            }
            return otherPulls ? town.payOf(person) - 2 * guess : PULLS_ALONE;
        }
    }

    /** Sets of people as bits; rows tell of each one who stands to it in the way that is asked about. */
    private static final class Sets {
        private static final int ALL_SETS = 1 << MOST_PEOPLE;

        private final int[] rows = new int[MOST_PEOPLE];
        private final int[] worths = new int[MOST_PEOPLE * MOST_PEOPLE];
        /** Of each set the most that pairs within it are worth together. */
        private final int[] most = new int[ALL_SETS];
        private final int[] mates = new int[MOST_PEOPLE];
        private int people;

        void guessRows(Town town, int least) {
            people = Math.min(town.people, MOST_PEOPLE);
            for (int person = 0; person < people; person++) {
                rows[person] = town.guessedBits(person, least);
            }
        }

        void ringRows(Town town) {
            people = Math.min(town.people, MOST_PEOPLE);
            for (int person = 0; person < people; person++) {
                rows[person] = town.ringingBits(person);
            }
        }

        private int rowOf(int person) {
            return person >= 0 && person < MOST_PEOPLE ? rows[person] : 0;
        }

        private int all() {
            return (1 << people) - 1;
        }

        /** All whom the rows of a set tell. */
        private int toldBy(int set) {
            int bits = 0;
            for (int person = 0; person < people; person++) {
                if (isIn(set, person)) {
                    bits |= rowOf(person);
                }
            }
            return bits;
        }

        private boolean isApart(int set) {
            return (toldBy(set) & set) == 0;
        }

        int greatestApart() {
            int best = 0;
            for (int set = 1; set <= all() && set < ALL_SETS; set++) {
                if (Integer.bitCount(set) > Integer.bitCount(best) && isApart(set)) {
                    best = set;
                }
            }
            return best;
        }

        int fewestGone() {
            int best = all();
            for (int set = 0; set < all() && set < ALL_SETS; set++) {
                if (Integer.bitCount(set) < Integer.bitCount(best) && isApart(all() & ~set)) {
                    best = set;
                }
            }
            return best;
        }

        int fewestHeads() {
            int best = all();
            for (int set = 0; set < all() && set < ALL_SETS; set++) {
                if (Integer.bitCount(set) < Integer.bitCount(best) && (toldBy(set) | set) == all()) {
                    best = set;
                }
            }
            return best;
        }

        int across(int set) {
            int pairs = 0;
            for (int person = 0; person < people; person++) {
                if (isIn(set, person)) {
                    pairs += Integer.bitCount(rowOf(person) & ~set);
                }
            }
            return pairs;
        }

        int bestParting() {
            int best = 0;
            for (int set = 1; set <= all() && set < ALL_SETS; set++) {
                if (across(set) > across(best)) {
                    best = set;
                }
            }
            return best;
        }

        int reached(int person, int steps) {
            int reached = 0;
            int latest = 1 << person;
            for (int i = 0; i < steps; i++) {
                latest = toldBy(latest);
                reached |= latest;
            }
            return reached;
        }

        int stepsBack(int person) {
            int latest = 1 << person;
            for (int steps = 1; steps <= people; steps++) {
                latest = toldBy(latest);
                if (isIn(latest, person)) {
                    return steps;
                }
            }
            return NONE;
        }

        // ---- TEAMS

        void setWorth(int person, int other, int worth) {
            int cell = Town.cell(person, other);
            if (cell >= 0) {
                worths[cell] = worth;
            }
        }

        /** Pairs are chosen so that their worths are the most, and each one's mate the least for that. */
        void putTogether(Town town) {
            people = Math.min(town.people, MOST_PEOPLE);
            for (int set = 0; set <= all() && set < ALL_SETS; set++) {
                most[set] = mostOf(set);
            }
            Arrays.fill(mates, NONE);
            int left = all();
            for (int person = 0; person < people; person++) {
                int mate = isIn(left, person) ? leastMate(left, person) : NONE;
                left = without(left, person);
                if (mate >= 0 && mate < MOST_PEOPLE) {
                    mates[person] = mate;
                    mates[mate] = person;
                    left = without(left, mate);
                }
            }
        }

        /** By the lesser sets, that are known by then: its first one stays alone, or has one of the others. */
        private int mostOf(int set) {
            for (int first = 0; first < people; first++) {
                if (isIn(set, first)) {
                    int best = mostIn(without(set, first));
                    for (int other = first + 1; other < people; other++) {
                        best = Math.max(best, mostWith(set, first, other));
                    }
                    return best;
                }
            }
            return 0;
        }

        private int leastMate(int set, int person) {
            if (mostIn(without(set, person)) == mostIn(set)) {
                return NONE;
            }
            for (int other = person + 1; other < people; other++) {
                if (mostWith(set, person, other) == mostIn(set)) {
                    return other;
                }
            }
            return NONE;
        }

        private int mostWith(int set, int person, int other) {
            int cell = Town.cell(person, other);
            if (cell < 0 || !isIn(set, other)) {
                return NONE;
            }
            return worths[cell] + mostIn(without(without(set, person), other));
        }

        private int mostIn(int set) {
            return set >= 0 && set < ALL_SETS ? most[set] : 0;
        }

        private static int without(int set, int person) {
            return set & ~(1 << person);
        }

        int mostTogether() {
            return mostIn(all());
        }

        int mateOf(int person) {
            return person >= 0 && person < MOST_PEOPLE ? mates[person] : NONE;
        }
    }
}

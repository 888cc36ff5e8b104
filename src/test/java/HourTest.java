import java.math.BigInteger;
import java.util.NoSuchElementException;

/** What an HOUR is: its TONE, what both hear, RUNG, the end of THE DAY, who is OUT, who meets, DRAW and THE LOG. */
public final class HourTest extends PromiseCase {
    /** The first draw from it is 99, modulo 100. */
    private static final int SEED_OF_99 = 194;
    private static final String BOTH = "rope 0 0 0;rope 1 0 1";

    public static void main(String[] args) {
        tones();
        tonesOfThePlan();
        soundsMore();
        soundsOfTheSwornOne();
        soundsWithinBounds();
        bothAsAheadOfTheHour();
        rungMore();
        hourAndDay();
        whoIsOut();
        whoIsOutAtTheBounds();
        whoMeets();
        meetingsWithinBounds();
        bothAsAheadOfTheirMeeting();
        meetingsSeeTheTime();
        draws();
        drawsOfFewPeople();
        rows();
        rowsAtMost();
        promise22();
        promise52();
        Checks.finish("HourTest");
    }

    private static void tones() {
        Doc.says("TONE of two at the ropes (or of an HOUR by THE PLAN): 0 nobody is there, 1 one alone, 2 one of both KNOWS of the other "
                + "one, 3 cracked: one of both GUESSES DOUBT at least of the other one (neither KNOWS), 4 it RINGS.");
        TwinRopes x = Checks.town("person at 0;person at 0;" + BOTH);
        for (int doubt = 1; doubt <= 9; doubt++) {
            Checks.tellTown(x, "doubt " + doubt);
            for (int guess = 0; guess <= 9; guess++) {
                int want = guess == 9 ? 2 : guess >= doubt ? 3 : 4;
                x.guess(0, 1, guess);
                x.guess(1, 0, 0);
                Checks.due("the first one guesses " + guess + ", doubt " + doubt, x.both(0, 1) * 100 + x.both(1, 0) * 10 + x.tone(0), want * 111);
                x.guess(0, 1, 0);
                x.guess(1, 0, guess);
                Checks.due("the other one guesses " + guess + ", doubt " + doubt, x.both(0, 1) * 100 + x.both(1, 0) * 10 + x.tone(0), want * 111);
            }
        }
        TwinRopes y = Checks.town("person at 0;person at 0;guess 0 1 9;guess 1 0 5");
        Checks.due("one knows, the other one doubts", y.both(0, 1), 2);
        y.guess(0, 1, 4);
        Checks.due("one doubts, the other one guesses", y.both(0, 1), 3);
        y.guess(1, 0, 4);
        Checks.due("both guess less", y.both(0, 1), 4);
        Doc.promise(12, "TONE of two, if both pulled now. IllegalArgumentException: both are one.");
        badTwo(y, "both", y::both);
    }

    private static void tonesOfThePlan() {
        Doc.promise(13, "Who is in a LOFT in an HOUR by THE PLAN; NONE.");
        Doc.promise(14, "TONE of an HOUR by THE PLAN, by all as it is now.");
        TwinRopes x = Checks.town(EIGHT, "rope 0 0 0;rope 1 1 0;rope 0 10 7;rope 1 11 6;rope 0 11 7");
        int[] tones = {1, 1, 0, 0, 0, 0, 0, 0, 0, 0, 1, 4};
        int[] first = {0, -1, -1, -1, -1, -1, -1, -1, -1, -1, 7, 7};
        int[] second = {-1, 0, -1, -1, -1, -1, -1, -1, -1, -1, -1, 6};
        for (int hour = 0; hour < 12; hour++) {
            Checks.due("tone(" + hour + ")", x.tone(hour), tones[hour]);
            Checks.due("plan(0, " + hour + ")", x.plan(0, hour), first[hour]);
            Checks.due("plan(1, " + hour + ")", x.plan(1, hour), second[hour]);
        }
        x.guess(6, 7, 5);
        Checks.due("as it is now", x.tone(11), 3);
        x.guess(7, 6, 9);
        Checks.due("as it is now", x.tone(11), 2);
        x.forget(6);
        Checks.due("as it is now", x.tone(11), 4);
        x.off(1, 11);
        Checks.due("as it is now", x.tone(11), 1);
        x.off(0, 11);
        Checks.due("as it is now", x.tone(11), 0);
    }

    private static void soundsMore() {
        Doc.says("AN HOUR: (a) the TONE; if both are there: GUESS of each of the other one is SOUNDS more");
        TwinRopes x = Checks.town(EIGHT, "rope 0 0 6;rope 1 0 7;rope 0 1 6;rope 1 2 7;guess 0 1 3");
        x.hours(1);
        Checks.due("both are there", x.guessed(6, 7) * 10 + x.guessed(7, 6), 11);
        x.hours(11);
        Checks.due("one alone, nobody", x.guessed(6, 7) * 10 + x.guessed(7, 6), 11);
        Checks.due("none else", x.count(9), 3 + 2);
        Checks.tellLaw(x, "guess 2;guess 1 if one < 7");
        x.hours(1);
        Checks.due("each by its own", x.guessed(6, 7) * 10 + x.guessed(7, 6), 43);
        x.change(0);
        x.hours(12);
        Checks.due("in each other's loft, too", x.guessed(6, 7) * 10 + x.guessed(7, 6), 75);
        x.hours(12);
        Checks.due("cracked, too", x.guessed(6, 7) * 10 + x.guessed(7, 6), 97);
        x.hours(12);
        Checks.due("dumb, too", x.guessed(6, 7) * 10 + x.guessed(7, 6), 99);
    }

    private static void soundsOfTheSwornOne() {
        TwinRopes x = Checks.town("person at 0 sworn;person at 0;person at 0 sworn;" + BOTH + ";rope 0 1 1;rope 1 1 0;rope 0 2 1;rope 1 2 2");
        Checks.tellLaw(x, "guess 1;guess 2 if sworn");
        x.hours(1);
        Checks.due("the sworn one in loft 0", x.guessed(0, 1) * 10 + x.guessed(1, 0), 31);
        x.hours(1);
        Checks.due("the sworn one in loft 1", x.guessed(0, 1) * 10 + x.guessed(1, 0), 62);
        x.hours(1);
        Checks.due("the sworn one of the greater number", x.guessed(2, 1) * 10 + x.guessed(1, 2), 31);
        TwinRopes y = near(100, 100);
        Checks.tellLaw(y, "tell 1;tell 2 if sworn");
        y.swear(1, true);
        y.hours(12);
        Checks.due("the sworn one meets", y.guessed(1, 0) * 10 + y.guessed(0, 1), 31);
        y.swear(1, false);
        y.swear(0, true);
        y.hours(12);
        Checks.due("the other one sworn", y.guessed(1, 0) * 10 + y.guessed(0, 1), 44);
    }

    private static void soundsWithinBounds() {
        Doc.says("(0 to 9;");
        TwinRopes x = Checks.town("person at 0;person at 0", ALL_HOURS_FIRST, ALL_HOURS_SECOND);
        int[] sounds = {-30, -9, -2, -1, 0, 1, 2, 9, 30};
        for (int more : sounds) {
            Checks.tellLaw(x, more < 0 ? "hush " + -more : "guess " + more);
            for (int guess : new int[] {0, 1, 8, 9}) {
                x.guess(0, 1, guess);
                x.guess(1, 0, 9 - guess);
                x.hours(1);
                Checks.due(guess + " and " + more, x.guessed(0, 1), Math.max(0, Math.min(9, guess + more)));
                Checks.due(9 - guess + " and " + more, x.guessed(1, 0), Math.max(0, Math.min(9, 9 - guess + more)));
            }
        }
    }

    private static void bothAsAheadOfTheHour() {
        Doc.says("both by all as it is ahead of (a); rang: if TONE is 4),");
        TwinRopes x = Checks.town("person at 0;person at 0;" + BOTH + ";rope 1 1 0;rope 0 1 1");
        Checks.tellLaw(x, "guess 5 if back < 1;guess 2 if back > 4");
        x.hours(1);
        Checks.due("neither guessed", x.guessed(0, 1) * 10 + x.guessed(1, 0), 55);
        x.forget(0);
        x.hours(1);
        Checks.due("the other way", x.guessed(0, 1) * 10 + x.guessed(1, 0), 55);
        Checks.tellTown(x, "hour 0;guess 0 1 4;guess 1 0 4");
        Checks.tellLaw(x, "guess 1;guess 2 if rang;hush 1 if rung > 0");
        Checks.due("it rings", x.hours(1), 1);
        Checks.due("for both by the same tone", x.guessed(0, 1) * 10 + x.guessed(1, 0), 77 - 11);
        Checks.due("it is cracked", x.hours(1), 0);
        Checks.due("rang it has not", x.guessed(0, 1) * 10 + x.guessed(1, 0), 66);
        TwinRopes y = Checks.town("person at 0;person at 0;" + BOTH);
        Checks.tellLaw(y, "guess 4 if rung > 0;guess 1 if hour < 1 and day < 1");
        y.hours(1);
        Checks.due("rung, hour and day ahead of (a)", y.guessed(0, 1) * 10 + y.guessed(1, 0), 11);
        y.hours(12);
        Checks.due("a day later", y.guessed(0, 1) * 10 + y.guessed(1, 0), 55);
    }

    private static void rungMore() {
        Doc.says("and with TONE 4 RUNG of both is 1 more (99 at most);");
        TwinRopes x = Checks.town("person at 0;person at 0;person at 0", ALL_HOURS_FIRST, ALL_HOURS_SECOND);
        Checks.tellLaw(x, "");
        for (int hours = 1; hours <= 102; hours++) {
            Checks.due("it rings", x.hours(1), 1);
            Checks.due("rung", x.rung(0, 1) * 100 + x.rung(1, 0), Math.min(hours, 99) * 101);
        }
        x.guess(0, 1, 5);
        x.rope(0, 6, 2);
        x.hours(1);
        Checks.due("others' rung", x.rung(2, 1) * 100 + x.rung(0, 2), 100);
        x.hours(1);
        Checks.due("cracked", x.rung(2, 1) * 100 + x.rung(0, 1), 199);
        TwinRopes y = Checks.town("person at 0;person at 0;guess 0 1 5", ALL_HOURS_FIRST, ALL_HOURS_SECOND);
        Checks.tellLaw(y, "hush 1 if guess > 4");
        Checks.due("cracked once", y.hours(3), 2);
        Checks.due("rung but then", y.rung(1, 0), 2);
        y.guess(1, 0, 9);
        Checks.due("dumb", y.hours(1), 0);
        Checks.due("is not rung", y.rung(1, 0), 2);
        y.off(0, 4);
        y.forget(0);
        y.hours(1);
        Checks.due("nor is one alone", y.rung(1, 0), 2);
    }

    private static void hourAndDay() {
        Doc.says("(b) HOUR is 1 more; behind 11 it is 0, and THE DAY ends:");
        Doc.says("DAY is 1 more (9999 at most).");
        TwinRopes x = new TwinRopes();
        for (int hours = 1; hours <= 40; hours++) {
            x.hours(1);
            Checks.due("hour and day", x.count(3) * 100 + x.count(4), hours % 12 * 100 + hours / 12);
        }
        Checks.tellTown(x, "hour 11;day 999");
        x.hours(1);
        Checks.due("day 1000", x.count(3) * 10000 + x.count(4), 1000);
        x.hours(12);
        Checks.due("day 1001", x.count(3) * 10000 + x.count(4), 1001);
        x.hours(120);
        Checks.due("ten days", x.count(3) * 10000 + x.count(4), 1011);
        x.hours(119);
        Checks.due("less an hour", x.count(3) * 10000 + x.count(4), 111020);
    }

    private static void whoIsOut() {
        Doc.says("each PERSON, by numbers, is OUT, if DRAW modulo 100 is below what it ROAMS;");
        // draws from SEED 1: 38, 58, 13, 15, 51, 27, 10, 19, then 12, 86, 49, 67, 84, 60, 25, 43
        TwinRopes x = near(38, 59, 13, 16, 51, 28, 10, 20);
        x.hours(12);
        Checks.due("who met", met(x), 0b10101010);
        Checks.due("each of them each", x.count(9), 4 * 3 * 2);
        TwinRopes y = near(39, 58, 14, 15, 52, 27, 11, 19);
        y.hours(12);
        Checks.due("who met", met(y), 0b01010101);
        TwinRopes z = near(12, 87, 49, 67, 84, 61, 25, 44);
        z.seed(-1661227463);
        z.hours(12);
        Checks.due("who met the next day", met(z), 0b10100010);
        TwinRopes two = near(38, 58, 13, 15, 51, 27, 10, 19);
        two.hours(12);
        Checks.due("nobody is out", met(two), 0);
        two.hours(11);
        Checks.due("nor ahead of the end of the day", met(two), 0);
        Checks.due("draws of one day", two.seed(1), -1661227463);
    }

    private static void whoIsOutAtTheBounds() {
        // from SEED 0 the first draw is 0, from SEED 194 modulo 100 it is 99
        Checks.due("0 is not below 0", metOf(0, 0, 100), 0);
        Checks.due("0 is below 1", metOf(0, 1, 100), 0b11);
        Checks.due("99 is not below 99", metOf(SEED_OF_99, 99, 100), 0);
        Checks.due("99 is below 100", metOf(SEED_OF_99, 100, 100), 0b11);
        Checks.due("38 is not below 38", metOf(1, 38, 100), 0);
        Checks.due("38 is below 39", metOf(1, 39, 100), 0b11);
        Checks.due("58 is not below 58", metOf(1, 100, 58), 0);
        Checks.due("58 is below 59", metOf(1, 100, 59), 0b11);
        Checks.due("who never roams is drawn for, too", metOf(1, 0, 59, 14), 0b110);
        for (int seed = 1; seed < 200; seed++) {
            Checks.due("who roams 100 is out", metOf(seed, 100, 100, 0), 0b011);
        }
    }

    private static void whoMeets() {
        Doc.says("each two who are OUT and near, by numbers (the lesser first, then the greater), meet: GUESS of each of the other one is "
                + "what it LETS OUT more");
        TwinRopes x = near(100, 100, 100, 100, 100, 100, 100, 100);
        x.hours(12);
        Checks.due("each two", x.count(9), 8 * 7 * 2);
        Checks.due("the last two", x.guessed(6, 7) * 10 + x.guessed(7, 6), 22);
        Checks.due("none is rung", x.rung(6, 7), 0);
        Checks.due("no row", x.count(10), 0);
        TwinRopes y = Checks.town("person at 0 roams 100;person at 7 roams 100;person at 0 roams 100;person at 7;person at 7 roams 100");
        y.hours(12);
        Checks.due("0 and 2", y.guessed(0, 2) * 10 + y.guessed(2, 0), 22);
        Checks.due("1 and 4", y.guessed(1, 4) * 10 + y.guessed(4, 1), 22);
        Checks.due("none else", y.count(9), 8);
        Checks.tellLaw(y, "tell 1;tell 2 if one > other;guess 20");
        y.move(0, 7);
        y.hours(12);
        Checks.due("0 and 1 each by its own", y.guessed(0, 1) * 10 + y.guessed(1, 0), 13);
        Checks.due("1 and 4 again", y.guessed(1, 4) * 10 + y.guessed(4, 1), 35);
        Checks.due("0 and 2 not", y.guessed(0, 2) * 10 + y.guessed(2, 0), 22);
        TwinRopes one = near(100);
        one.hours(24);
        Checks.due("one meets nobody", one.count(4), 2);
    }

    private static void meetingsWithinBounds() {
        Doc.says("(0 to 9; both by all as it is ahead of their meeting);");
        for (int more : new int[] {-30, -9, -2, -1, 0, 1, 2, 9, 30}) {
            TwinRopes x = near(100, 100);
            Checks.tellLaw(x, more < 0 ? "hush " + -more : "tell " + more);
            for (int guess : new int[] {0, 1, 8, 9}) {
                x.guess(0, 1, guess);
                x.guess(1, 0, 9 - guess);
                x.hours(12);
                Checks.due(guess + " and " + more, x.guessed(0, 1), Math.max(0, Math.min(9, guess + more)));
                Checks.due(9 - guess + " and " + more, x.guessed(1, 0), Math.max(0, Math.min(9, 9 - guess + more)));
            }
        }
    }

    private static void bothAsAheadOfTheirMeeting() {
        TwinRopes x = near(100, 100, 100);
        Checks.tellLaw(x, "tell 5 if back < 1;tell 2 if back > 4");
        x.hours(12);
        for (int person = 0; person < 3; person++) {
            Checks.due("neither guessed", x.guessed(person, (person + 1) % 3) * 10 + x.guessed((person + 1) % 3, person), 55);
        }
        TwinRopes y = near(100, 100);
        y.rope(0, 11, 1);
        y.rope(1, 11, 0);
        Checks.tellLaw(y, "guess 3;tell 1 if guess > 2;tell 2 if rung > 0;tell 30 if rang");
        y.hours(12);
        Checks.due("behind (a) of the HOUR", y.guessed(0, 1) * 10 + y.guessed(1, 0), 66);
    }

    private static void meetingsSeeTheTime() {
        TwinRopes x = near(100, 100);
        Checks.tellTown(x, "day 6");
        Checks.tellLaw(x, "tell 1 if hour < 1;tell 2 if day < 7;tell 4 if hour > 0;tell 9 if day > 6");
        x.hours(12);
        Checks.due("HOUR is 0, and DAY the one that ends", x.guessed(0, 1) * 10 + x.guessed(1, 0), 33);
    }

    private static void draws() {
        Doc.says("DRAW: SEED is 1103515245 times SEED and 12345, as an int that goes round; bits 16 to 30 (SEED 1 at first).");
        Checks.due("SEED at first", new TwinRopes().seed(5), 1);
        int[] seeds = {0, 1, -1, 2, 12345, -12345, 65535, 65536, 1 << 30, 1103515245, Integer.MAX_VALUE, Integer.MAX_VALUE - 1,
            Integer.MIN_VALUE, Integer.MIN_VALUE + 1, SEED_OF_99};
        for (int seed : seeds) {
            TwinRopes x = near(0);
            x.seed(seed);
            x.hours(12);
            Checks.due("seed behind " + seed, x.seed(0), next(seed));
            int draw = draw(next(seed)) % 100;
            Checks.due("not out by SEED " + seed, metOf(seed, draw, 100), 0);
            Checks.due("out by SEED " + seed, metOf(seed, draw + 1, 100), 0b11);
        }
        Checks.due("the first SEED", next(1), 1103527590);
        Checks.due("its draw", draw(1103527590), 16838);
        Checks.due("a SEED that went round", next(1103527590), -1770082073);
    }

    private static void drawsOfFewPeople() {
        TwinRopes nobody = new TwinRopes();
        nobody.hours(120);
        Checks.due("nobody is drawn for", nobody.seed(1), 1);
        for (int people = 1; people <= 8; people++) {
            int[] roams = new int[people];
            TwinRopes x = near(roams);
            x.hours(24);
            int seed = 1;
            for (int i = 0; i < 2 * people; i++) {
                seed = next(seed);
            }
            Checks.due("draws of two days for " + people, x.seed(1), seed);
        }
    }

    private static void rows() {
        Doc.says("THE LOG: the latest 60 HOURS with a TONE above 0 (ahead of (b)): DAY, HOUR, who was in LOFT 0, in LOFT 1 (none), the TONE.");
        Doc.promise(51, "THE LOG so many ago (0 the latest) what 0 DAY, 1 HOUR, 2 who was in LOFT 0 (NONE), 3 in LOFT 1 (NONE), 4 the TONE; "
                + "- 2 without. NoSuchElementException: another what.");
        TwinRopes x = Checks.town(EIGHT, "day 999;hour 7;guess 0 7 4;rope 0 7 0;rope 1 7 7;rope 0 8 7;rope 1 9 0;rope 0 11 7;rope 1 11 0;rope 1 0 7");
        row(x, 0, -2, -2, -2, -2, -2);
        x.hours(6);
        row(x, 4, 999, 7, 0, 7, 4);
        row(x, 3, 999, 8, 7, -1, 1);
        row(x, 2, 999, 9, -1, 0, 1);
        row(x, 1, 999, 11, 7, 0, 3);
        row(x, 0, 1000, 0, -1, 7, 1);
        row(x, 5, -2, -2, -2, -2, -2);
        x.guess(7, 0, 9);
        x.off(0, 11);
        row(x, 1, 999, 11, 7, 0, 3);
        x.hours(7);
        x.hours(1);
        row(x, 1, 1000, 7, 0, 7, 2);
        row(x, 0, 1000, 8, 7, -1, 1);
        for (int ago : new int[] {-1, 7, 59, 60, Integer.MIN_VALUE, Integer.MAX_VALUE}) {
            row(x, ago, -2, -2, -2, -2, -2);
        }
        for (int what : new int[] {-1, 5, Integer.MIN_VALUE, Integer.MAX_VALUE}) {
            Checks.refusedWhole(x, "log of another what", NoSuchElementException.class, () -> x.log(0, what));
            Checks.refusedWhole(x, "log of another what without", NoSuchElementException.class, () -> x.log(60, what));
        }
    }

    private static void row(TwinRopes x, int ago, int... want) {
        for (int what = 0; what < want.length; what++) {
            Checks.due("log(" + ago + ", " + what + ")", x.log(ago, what), want[what]);
        }
    }

    private static void rowsAtMost() {
        TwinRopes x = Checks.town("person at 0;person at 0", ALL_HOURS_FIRST);
        x.rope(1, 0, 1);
        for (int hours = 1; hours <= 59; hours++) {
            x.hours(1);
        }
        Checks.due("59 rows", x.count(10), 59);
        row(x, 58, 0, 0, 0, 1, 4);
        row(x, 59, -2, -2, -2, -2, -2);
        x.hours(1);
        Checks.due("60 rows", x.count(10), 60);
        row(x, 59, 0, 0, 0, 1, 4);
        row(x, 60, -2, -2, -2, -2, -2);
        x.hours(1);
        Checks.due("60 rows yet", x.count(10), 60);
        row(x, 59, 0, 1, 0, -1, 1);
        row(x, 60, -2, -2, -2, -2, -2);
        row(x, 0, 5, 0, 0, 1, 3);
        x.hours(11);
        row(x, 59, 1, 0, 0, 1, 4);
        x.undo();
        row(x, 59, 0, 1, 0, -1, 1);
        TwinRopes y = Checks.town("person at 0;person at 0;rope 0 5 1");
        y.hours(120);
        y.hours(120);
        Checks.due("hours of nobody have no rows", y.count(10), 20);
        row(y, 19, 0, 5, 1, -1, 1);
        row(y, 20, -2, -2, -2, -2, -2);
    }

    private static void promise22() {
        Doc.promise(22, "So many HOURS more (1 to 120): in how many it RANG. IllegalArgumentException: they are none.");
        TwinRopes x = Checks.town("person at 0;person at 0", ALL_HOURS_FIRST, ALL_HOURS_SECOND);
        badNumber(x, "hours", 1, 120, x::hours);
        Checks.due("without a law in 5", x.hours(120), 5);
        Checks.due("then in none", x.hours(1), 0);
        Checks.due("hours", x.count(4) * 100 + x.count(3), 1001);
        x.forget(1);
        Checks.tellLaw(x, "");
        Checks.due("one", x.hours(1), 1);
        Checks.due("120", x.hours(120), 120);
        Checks.tellLaw(x, "guess 5 if guess < 5;hush 5 if guess > 4");
        Checks.due("each other one", x.hours(119), 60);
        Checks.due("nobody's", new TwinRopes().hours(120), 0);
    }

    private static void promise52() {
        Doc.promise(52, "SEED: what it was.");
        TwinRopes x = near(1, 1);
        int[] seeds = {0, -1, Integer.MIN_VALUE, Integer.MAX_VALUE, 7, 7, 1};
        int was = 1;
        for (int seed : seeds) {
            Checks.due("seed(" + seed + ")", x.seed(seed), was);
            was = seed;
        }
        Checks.due("it is no act", x.count(11), 0);
        x.seed(5);
        x.hours(11);
        Checks.due("it stays till a day ends", x.seed(5), 5);
        x.hours(1);
        Checks.due("then it goes on", x.seed(1), next(next(5)));
    }

    // ---- what the tests of meetings share

    /** People of one HAUNT, of each what it ROAMS. */
    private static TwinRopes near(int... roams) {
        StringBuilder text = new StringBuilder();
        for (int roam : roams) {
            text.append(text.length() > 0 ? ";" : "").append("person at 3 roams ").append(roam);
        }
        return Checks.town(text.toString());
    }

    /** Who met somebody, as bits, as far as the two guessed nothing ahead of it. */
    private static int met(TwinRopes x) {
        int bits = 0;
        for (int person = 0; person < x.count(0); person++) {
            for (int other = 0; other < x.count(0); other++) {
                bits |= person != other && x.guessed(person, other) > 0 ? 1 << person : 0;
            }
        }
        return bits;
    }

    private static int metOf(int seed, int... roams) {
        TwinRopes x = near(roams);
        x.seed(seed);
        x.hours(12);
        return met(x);
    }

    /** The document's SEED behind one, by numbers without an end. */
    private static int next(int seed) {
        return BigInteger.valueOf(1103515245).multiply(BigInteger.valueOf(seed)).add(BigInteger.valueOf(12345)).intValue();
    }

    private static int draw(int seed) {
        return BigInteger.valueOf(seed).mod(BigInteger.ONE.shiftLeft(32)).shiftRight(16).intValue() % 32768;
    }
}

import java.util.NoSuchElementException;

/** Promises 7 to 22: people, guesses, THE PLAN, the acts and HOURS. */
public final class TownTest extends PromiseCase {
    private static final String FOUR = "person at 1 roams 100 pay 5;person at 1 roams 50 pay 9;person at 2 pay 2 sworn;"
            + "person at 1 roams 100 pay 5;guess 0 1 4;guess 1 2 9;guess 2 3 5;guess 3 2 9;rope 0 0 0;rope 1 0 1;rope 0 1 2;"
            + "rope 1 2 3;rope 0 3 1;rope 1 3 2";

    public static void main(String[] args) {
        promise7();
        promise7Share();
        promise8And9();
        promise10And11();
        promise12();
        promise13And14();
        promise15();
        promise16();
        promise17();
        promise18();
        promise19();
        promise20();
        promise21();
        promise22Ropes();
        promise22Bounds();
        promise22Meetings();
        promise22Days();
        promise22Sworn();
        Checks.finish("TownTest");
    }

    private static void promise7() {
        TwinRopes x = Checks.town(FOUR);
        int[][] want = {
            {1, 100, 5, 0, 1, 5, 3, 0, 10, 0},
            {1, 50, 9, 0, 9, 18, 2, 0, 9, 4},
            {2, 0, 2, 1, 10, 4, 1, 0, 0, 0},
            {1, 100, 5, 0, 4, 5, 2, 0, 3, 4}};
        for (int person = 0; person < 4; person++) {
            for (int what = 0; what < 10; what++) {
                Checks.due("person(" + person + ", " + what + ")", x.person(person, what), want[person][what]);
            }
            int one = person;
            for (int what : new int[] {-1, 10, Integer.MIN_VALUE, Integer.MAX_VALUE}) {
                Checks.refusedWhole(x, "person of another what", NoSuchElementException.class, () -> x.person(one, what));
            }
        }
        badPerson(x, "person 0", person -> x.person(person, 0));
        badPerson(x, "person of another what too", person -> x.person(person, 10));
    }

    private static void promise7Share() {
        TwinRopes x = Checks.town("person at 1;person at 2;person at 3;rope 0 0 0;rope 1 0 1;rope 0 1 1;rope 1 1 2;"
                + "rope 0 2 1;rope 1 2 0;rope 0 3 2");
        Checks.tellLaw(x, "guess 0");
        Checks.due("without a row", x.person(0, 7), 0);
        x.hours(1);
        Checks.due("one of one", x.person(0, 7), 100);
        Checks.due("none of one", x.person(2, 7), 0);
        x.hours(11);
        Checks.due("rows", x.count(10), 4);
        Checks.due("two of three", x.person(0, 7), 66);
        Checks.due("three of three", x.person(1, 7), 100);
        Checks.due("one of three, the row alone is none", x.person(2, 7), 33);
    }

    private static void promise8And9() {
        TwinRopes x = Checks.town(FOUR);
        Checks.due("guessed(0, 1)", x.guessed(0, 1), 4);
        Checks.due("guessed(1, 0)", x.guessed(1, 0), 0);
        Checks.due("guessed(3, 2)", x.guessed(3, 2), 9);
        badTwo(x, "guessed", x::guessed);
        Checks.due("rung ahead", x.rung(0, 1), 0);
        x.hours(1);
        Checks.due("rung of both", x.rung(0, 1), 1);
        Checks.due("rung the other way", x.rung(1, 0), 1);
        Checks.due("rung of others", x.rung(0, 2), 0);
        badTwo(x, "rung", x::rung);
    }

    private static void promise10And11() {
        TwinRopes x = Checks.town(FOUR);
        Checks.due("sounds without a law", x.sounds(2, 0), 1);
        Checks.due("lets without a law", x.lets(2, 0), 2);
        Checks.tellLaw(x, "guess 3 if sworn;guess 5 if rang;tell 4 if sworn;tell 8 if near;hush 1 if one > other;tell 16 if rang");
        Checks.due("sounds(2, 0)", x.sounds(2, 0), 7);
        Checks.due("sounds(0, 2)", x.sounds(0, 2), 5);
        Checks.due("sounds(2, 1) does not ring", x.sounds(2, 1), 2);
        Checks.due("sounds(1, 2) does not ring", x.sounds(1, 2), 0);
        Checks.due("lets(2, 0)", x.lets(2, 0), 3);
        Checks.due("lets(0, 2)", x.lets(0, 2), 0);
        Checks.due("lets(0, 3)", x.lets(0, 3), 8);
        Checks.due("lets(3, 0)", x.lets(3, 0), 7);
        badTwo(x, "sounds", x::sounds);
        badTwo(x, "lets", x::lets);
    }

    private static void promise12() {
        TwinRopes x = Checks.town(FOUR);
        int[][] want = {{0, 4, 4, 4}, {4, 0, 2, 4}, {4, 2, 0, 2}, {4, 4, 2, 0}};
        for (int a = 0; a < 4; a++) {
            for (int b = 0; b < 4; b++) {
                if (a != b) {
                    Checks.due("both(" + a + ", " + b + ")", x.both(a, b), want[a][b]);
                }
            }
        }
        Checks.tellTown(x, "doubt 4");
        Checks.due("cracked by the first", x.both(0, 1), 3);
        Checks.due("cracked by the second", x.both(1, 0), 3);
        Checks.tellTown(x, "doubt 9;guess 0 1 8");
        Checks.due("below a doubt of 9", x.both(0, 1), 4);
        x.guess(0, 1, 9);
        Checks.due("known is not cracked", x.both(0, 1), 2);
        badTwo(x, "both", x::both);
    }

    private static void promise13And14() {
        TwinRopes x = Checks.town(FOUR);
        Checks.due("plan(0, 3)", x.plan(0, 3), 1);
        Checks.due("plan(1, 3)", x.plan(1, 3), 2);
        Checks.due("plan(0, 2)", x.plan(0, 2), -1);
        Checks.due("plan(1, 2)", x.plan(1, 2), 3);
        int[] tones = {4, 1, 1, 2, 0, 0, 0, 0, 0, 0, 0, 0};
        for (int hour = 0; hour < 12; hour++) {
            Checks.due("tone(" + hour + ")", x.tone(hour), tones[hour]);
        }
        x.guess(1, 0, 5);
        Checks.due("tone cracked", x.tone(0), 3);
        badHour(x, "tone", x::tone);
        badHour(x, "plan of loft 0", hour -> x.plan(0, hour));
        badHour(x, "plan of loft 1", hour -> x.plan(1, hour));
        badLoft(x, "plan", loft -> x.plan(loft, 0));
    }

    private static void promise15() {
        TwinRopes x = Checks.town(FOUR);
        Checks.due("rope at nobody's", x.rope(1, 1, 3), -1);
        Checks.due("rope in place of 3", x.rope(1, 1, 0), 3);
        Checks.due("rope of the same one", x.rope(1, 1, 0), 0);
        Checks.due("who is there", x.plan(1, 1), 0);
        Checks.due("acts", x.count(11), 3);
        Checks.refusedWhole(x, "rope of one at the other", IllegalStateException.class, () -> x.rope(0, 1, 0));
        Checks.refusedWhole(x, "rope of one at the other", IllegalStateException.class, () -> x.rope(1, 1, 2));
        badLoft(x, "rope", loft -> x.rope(loft, 0, 0));
        badHour(x, "rope", hour -> x.rope(0, hour, 0));
        badPerson(x, "rope", person -> x.rope(0, 2, person));
        Checks.noIndex("rope of nobody at an empty hour", () -> x.rope(0, 5, -1));
    }

    private static void promise16() {
        TwinRopes x = Checks.town(FOUR);
        Checks.due("off(1, 3)", x.off(1, 3), 2);
        Checks.due("nobody is there", x.plan(1, 3), -1);
        Checks.due("the other one is", x.plan(0, 3), 1);
        Checks.due("acts", x.count(11), 1);
        Checks.refusedWhole(x, "off of nobody", IllegalStateException.class, () -> x.off(1, 3));
        badLoft(x, "off", loft -> x.off(loft, 0));
        badHour(x, "off", hour -> x.off(0, hour));
    }

    private static void promise17() {
        TwinRopes x = Checks.town(FOUR);
        Checks.due("change of two", x.change(0), 1);
        Checks.due("loft 1 then", x.plan(1, 0), 0);
        Checks.due("change of one alone", x.change(1), -1);
        Checks.due("loft 1 then", x.plan(1, 1), 2);
        Checks.due("and back", x.change(1), 2);
        Checks.due("change of nobody", x.change(11), -1);
        Checks.due("acts, also that which changed nothing", x.count(11), 4);
        badHour(x, "change", x::change);
    }

    private static void promise18() {
        TwinRopes x = Checks.town(FOUR);
        Checks.due("sworn one", x.swear(2, true), false);
        Checks.due("sworn", x.swear(0, true), true);
        Checks.due("of all", x.count(7), 5);
        Checks.due("no more", x.swear(2, false), true);
        Checks.due("nor then", x.swear(2, false), false);
        Checks.due("of all", x.count(7), 1);
        Checks.due("acts", x.count(11), 4);
        badPerson(x, "swear", person -> x.swear(person, true));
    }

    private static void promise19() {
        TwinRopes x = Checks.town(FOUR);
        Checks.due("move", x.move(2, 1), 2);
        Checks.due("move again", x.move(2, 7), 1);
        Checks.due("move to 0", x.move(2, 0), 7);
        Checks.due("move to the same", x.move(2, 0), 0);
        Checks.due("acts", x.count(11), 4);
        badPerson(x, "move", person -> x.move(person, 0));
        for (int haunt : new int[] {-1, 8, Integer.MIN_VALUE, Integer.MAX_VALUE}) {
            Checks.refusedWhole(x, "move to " + haunt, IndexOutOfBoundsException.class, () -> x.move(0, haunt));
        }
    }

    private static void promise20() {
        TwinRopes x = Checks.town(FOUR);
        Checks.due("guess", x.guess(0, 1, 9), 4);
        Checks.due("guess again", x.guess(0, 1, 0), 9);
        Checks.due("the other way", x.guess(1, 0, 3), 0);
        Checks.due("the first one's is", x.guessed(0, 1), 0);
        Checks.due("acts", x.count(11), 3);
        badTwo(x, "guess", (person, other) -> x.guess(person, other, 5));
        badTwo(x, "guess of none", (person, other) -> x.guess(person, other, 10));
        badNumber(x, "guess", 0, 9, n -> x.guess(0, 1, n));
    }

    private static void promise21() {
        TwinRopes x = Checks.town(FOUR);
        x.hours(1);
        Checks.due("forget: 9 and 9, 5", x.forget(2), 9 + 9 + 5);
        Checks.due("forget again", x.forget(2), 0);
        Checks.due("what others guess of others", x.guessed(0, 1), 5);
        Checks.due("forget of 0: 5 and 1", x.forget(0), 6);
        Checks.due("rung stays", x.rung(0, 1), 1);
        Checks.due("all", x.count(9), 0);
        Checks.due("acts", x.count(11), 4);
        badPerson(x, "forget", x::forget);
    }

    private static void promise22Ropes() {
        TwinRopes x = Checks.town(FOUR);
        Checks.due("hour 0 rings", x.hours(1), 1);
        Checks.due("guess of 0", x.guessed(0, 1), 5);
        Checks.due("guess of 1", x.guessed(1, 0), 1);
        Checks.due("hour", x.count(3), 1);
        Checks.due("hours 1 to 3 do not", x.hours(3), 0);
        Checks.due("who knows, hears", x.guessed(2, 1), 1);
        Checks.due("no more than 9", x.guessed(1, 2), 9);
        Checks.due("rung not", x.rung(1, 2), 0);
        Checks.due("rows", x.count(10), 4);
        Checks.due("one alone guesses nothing", x.guessed(2, 0), 0);
        TwinRopes y = Checks.town("person at 1;person at 2;guess 0 1 1;guess 1 0 1;rope 1 0 0;rope 0 0 1;rope 1 2 0;rope 0 2 1");
        // both by all as it is ahead: each guesses below 2 of the other one, so each is told 2
        Checks.tellLaw(y, "guess 2 if back < 2;guess 1 if rung > 0;hush 9 if not rang");
        Checks.due("rings", y.hours(2), 1);
        Checks.due("first one", y.guessed(0, 1), 3);
        Checks.due("second one", y.guessed(1, 0), 3);
        Checks.due("rings in hour 2", y.hours(1), 1);
        Checks.due("by what was rung ahead", y.guessed(0, 1), 4);
        y.guess(1, 0, 5);
        Checks.due("cracked", y.hours(10), 0);
        Checks.due("no less than 0", y.guessed(0, 1), 0);
        Checks.due("by less than 5", y.guessed(1, 0), 0);
        Checks.due("rung", y.rung(0, 1), 2);
    }

    private static void promise22Bounds() {
        TwinRopes x = Checks.town("person at 1;person at 2");
        Checks.tellLaw(x, "guess 0");
        for (int hour = 0; hour < 12; hour++) {
            x.rope(0, hour, 0);
            x.rope(1, hour, 1);
        }
        Checks.due("all ring", x.hours(99), 99);
        Checks.due("rung", x.rung(0, 1), 99);
        Checks.due("all ring", x.hours(120), 120);
        Checks.due("rung at most", x.rung(1, 0), 99);
        Checks.due("rows at most", x.count(10), 60);
        Checks.due("day", x.count(4), 18);
        Checks.due("hour", x.count(3), 3);
        Checks.due("hours of one call are one act", x.count(11), 12);
        x.undo();
        Checks.due("ahead of it", x.rung(0, 1) * 100 + x.count(4), 9908);
        badNumber(x, "hours", 1, 120, x::hours);
    }

    private static void promise22Meetings() {
        // draws from SEED 1: 38, 58, 13, then 15, 51, 27
        TwinRopes x = Checks.town("person at 4 roams 39;person at 4 roams 58;person at 4 roams 14");
        Checks.due("nobody pulls", x.hours(11), 0);
        Checks.due("no draw ahead of the day's end", x.seed(1), 1);
        x.hours(1);
        Checks.due("0 of 2", x.guessed(0, 2), 2);
        Checks.due("2 of 0", x.guessed(2, 0), 2);
        Checks.due("58 is not below 58", x.guessed(0, 1) + x.guessed(1, 0) + x.guessed(1, 2) + x.guessed(2, 1), 0);
        Checks.due("three draws", x.seed(662824084), 662824084);
        Checks.due("day", x.count(4), 1);
        Checks.due("hour", x.count(3), 0);
        x.move(2, 5);
        x.hours(12);
        Checks.due("0 and 1 meet then", x.guessed(0, 1) + 10 * x.guessed(1, 0), 22);
        Checks.due("0 and 2 not", x.guessed(0, 2), 2);
        Checks.due("no rows", x.count(10), 0);
        Checks.due("meetings are not rung", x.rung(0, 1), 0);
        TwinRopes y = Checks.town("person at 4;person at 4 roams 59;person at 4 roams 14");
        y.hours(12);
        Checks.due("who never roams is drawn for", y.guessed(1, 2), 2);
        TwinRopes z = Checks.town("person at 4 roams 100;person at 5 roams 100");
        z.hours(120);
        Checks.due("out, but not near", z.count(9), 0);
    }

    private static void promise22Sworn() {
        TwinRopes x = Checks.town("person at 4 roams 100;person at 4 roams 100 sworn;rope 1 0 0;rope 0 0 1;rope 0 1 0;rope 1 1 1");
        Checks.tellLaw(x, "guess 1;guess 2 if sworn;tell 0;tell 3 if sworn;hush 1 if one > 0 and back > 8");
        x.hours(1);
        Checks.due("the sworn one in loft 0", x.guessed(1, 0), 3);
        Checks.due("the other one", x.guessed(0, 1), 1);
        x.hours(1);
        Checks.due("the sworn one in loft 1", x.guessed(1, 0), 6);
        Checks.due("the other one", x.guessed(0, 1), 2);
        x.forget(0);
        x.hours(10);
        Checks.due("the sworn one is told", x.guessed(1, 0), 3);
        Checks.due("the other one is not", x.guessed(0, 1), 0);
    }

    private static void promise22Days() {
        TwinRopes x = Checks.town("person at 4 roams 100 sworn;person at 4 roams 100;hour 11;day 6;guess 0 1 1");
        // as they meet it is HOUR 0, and THE DAY is not over yet; both are told by all as it is ahead
        Checks.tellLaw(x, "tell 3 if hour < 1 and day < 7 and day > 5;tell 1 if guess > 0;tell 1 if back > 2;hush 2 if sworn;"
                + "tell 20 if rang");
        x.hours(1);
        Checks.due("sworn one", x.guessed(0, 1), 1 + 3 + 1 - 2);
        Checks.due("other one", x.guessed(1, 0), 3);
        Checks.due("day", x.count(4), 7);
        x.hours(12);
        Checks.due("sworn one", x.guessed(0, 1), 3 + 1 + 1 - 2);
        Checks.due("other one", x.guessed(1, 0), 3 + 1 + 1);
        Checks.tellLaw(x, "hush 4");
        x.hours(12);
        Checks.due("no less than 0", x.guessed(0, 1), 0);
        Checks.due("less", x.guessed(1, 0), 1);
        Checks.tellLaw(x, "tell 30");
        x.hours(12);
        Checks.due("no more than 9", x.guessed(1, 0), 9);
    }
}

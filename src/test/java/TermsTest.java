/** The first part of the Terms: HOURS, LOFTS, PEOPLE and what is of each, THE PLAN, DOUBT, HOUR and DAY, each at its bounds. */
public final class TermsTest extends PromiseCase {
    public static void main(String[] args) {
        hoursAndLofts();
        people();
        haunts();
        roams();
        pay();
        sworn();
        guesses();
        knows();
        rung();
        thePlan();
        neverInBothLofts();
        doubt();
        hourAndDay();
        Checks.finish("TermsTest");
    }

    private static void hoursAndLofts() {
        Doc.says("HOURS 0 to 11 of a DAY, LOFTS 0 and 1.");
        TwinRopes x = Checks.town("person at 0;person at 1");
        for (int loft = 0; loft < 2; loft++) {
            for (int hour = 0; hour < 12; hour++) {
                Checks.due("rope(" + loft + ", " + hour + ")", x.rope(loft, hour, loft), -1);
                Checks.due("plan(" + loft + ", " + hour + ")", x.plan(loft, hour), loft);
            }
        }
        Checks.due("24 ropes", x.count(8), 24);
        Checks.due("tone(0)", x.tone(0), 4);
        Checks.due("tone(11)", x.tone(11), 4);
        Checks.due("change(11)", x.change(11), 1);
        Checks.due("off(1, 11)", x.off(1, 11), 0);
        Checks.due("mend(11)", x.mend(11), 0 * 2 + 1);
        badHour(x, "tone", x::tone);
        badHour(x, "plan of loft 0", hour -> x.plan(0, hour));
        badHour(x, "plan of loft 1", hour -> x.plan(1, hour));
        badHour(x, "rope", hour -> x.rope(0, hour, 0));
        badHour(x, "off", hour -> x.off(0, hour));
        badHour(x, "change", x::change);
        badHour(x, "mend", x::mend);
        badLoft(x, "plan", loft -> x.plan(loft, 0));
        badLoft(x, "rope", loft -> x.rope(loft, 0, 0));
        badLoft(x, "off", loft -> x.off(loft, 0));
    }

    private static void people() {
        Doc.says("PEOPLE (at most 8, numbered from 0 on):");
        TwinRopes x = new TwinRopes();
        for (int people = 0; people < 8; people++) {
            int one = people;
            Checks.due("people", x.count(0), people);
            badPerson(x, "person ahead of a text", person -> x.person(person, 0));
            Checks.noIndex("person " + one + " yet", () -> x.person(one, 0));
            Checks.tellTown(x, "person at " + (7 - people));
            Checks.due("haunt of " + people, x.person(people, 0), 7 - people);
        }
        Checks.due("eight", x.count(0), 8);
        badPerson(x, "person", person -> x.person(person, 0));
        Checks.wrongTown(x, "day 3;^person at 0");
        Checks.due("eight yet", x.count(0), 8);
        TwinRopes y = Checks.town(EIGHT);
        for (int person = 0; person < 8; person++) {
            Checks.due("haunt of " + person, y.person(person, 0), person);
        }
        Checks.wrongTown(new TwinRopes(), EIGHT + ";^person at 0");
    }

    private static void haunts() {
        Doc.says("a HAUNT 0 to 7,");
        TwinRopes x = Checks.town(EIGHT);
        for (int haunt = 0; haunt < 8; haunt++) {
            Checks.due("haunt told", x.person(haunt, 0), haunt);
            Checks.due("moved from", x.move(0, haunt), haunt == 0 ? 0 : haunt - 1);
            Checks.due("moved to", x.person(0, 0), haunt);
        }
        TwinRopes y = Checks.town("person at 7");
        Checks.wrongTown(y, "person at ^8");
        Checks.wrongTown(y, "person at ^9");
        for (int haunt : new int[] {-1, 8, Integer.MIN_VALUE, Integer.MAX_VALUE}) {
            Checks.refusedWhole(y, "move to " + haunt, IndexOutOfBoundsException.class, () -> y.move(0, haunt));
        }
    }

    private static void roams() {
        Doc.says("ROAMS 0 to 100 (0 at first),");
        TwinRopes x = Checks.town("person at 0;person at 0 roams 0;person at 0 roams 1;person at 0 roams 99;person at 0 roams 100");
        int[] want = {0, 0, 1, 99, 100};
        for (int person = 0; person < want.length; person++) {
            Checks.due("roams of " + person, x.person(person, 1), want[person]);
        }
        Checks.wrongTown(x, "person at 0 roams ^101");
        Checks.wrongTown(x, "person at 0 roams ^999");
        Checks.wrongTown(x, "person at 0 roams ^-1");
    }

    private static void pay() {
        Doc.says("PAY 0 to 99 (0 at first),");
        TwinRopes x = Checks.town("person at 0;person at 0 pay 0;person at 0 pay 1;person at 0 pay 98;person at 0 pay 99");
        int[] want = {0, 0, 1, 98, 99};
        for (int person = 0; person < want.length; person++) {
            Checks.due("pay of " + person, x.person(person, 2), want[person]);
        }
        Checks.wrongTown(x, "person at 0 pay ^100");
        Checks.wrongTown(x, "person at 0 pay ^999");
    }

    private static void sworn() {
        Doc.says("SWORN or not (not at first),");
        TwinRopes x = Checks.town(EIGHT);
        Checks.due("nobody is sworn", x.count(7), 0);
        for (int person = 0; person < 8; person++) {
            Checks.due("not sworn", x.person(person, 3), 0);
            Checks.due("sworn then", x.swear(person, true), true);
            Checks.due("is", x.person(person, 3), 1);
        }
        Checks.due("all are sworn", x.count(7), 255);
        Checks.due("not sworn then", x.swear(7, false), true);
        Checks.due("all but one", x.count(7), 127);
        Checks.due("sworn by a text", Checks.town("person at 0;person at 0 sworn").count(7), 2);
    }

    private static void guesses() {
        Doc.says("of each other one GUESS 0 to 9 (0 at first; one KNOWS of another one, if it is 9),");
        TwinRopes x = Checks.town(EIGHT);
        Checks.due("guesses at first", x.count(9), 0);
        for (int person = 0; person < 8; person++) {
            for (int other = 0; other < 8; other++) {
                if (person != other) {
                    Checks.due("guess at first", x.guessed(person, other), 0);
                    Checks.due("guess 9", x.guess(person, other, 9), 0);
                }
            }
        }
        Checks.due("all guess 9 of all", x.count(9), 8 * 7 * 9);
        Checks.due("28 pairs", x.count(6), 28);
        Checks.due("0 knows of all others", x.person(0, 9), 0b11111110);
        Checks.due("7 knows of all others", x.person(7, 9), 0b01111111);
        TwinRopes y = Checks.town("person at 0;person at 0;guess 0 1 0;guess 1 0 9");
        Checks.due("guess 0", y.guessed(0, 1), 0);
        Checks.due("guess 9", y.guessed(1, 0), 9);
        Checks.wrongTown(y, "guess 0 1 ^10");
        badNumber(y, "guess", 0, 9, n -> y.guess(0, 1, n));
    }

    private static void knows() {
        TwinRopes x = Checks.town("person at 0;person at 0;doubt 9");
        x.guess(0, 1, 8);
        Checks.due("8 is not to know", x.person(0, 9), 0);
        Checks.due("no pair", x.count(6), 0);
        Checks.due("it rings", x.both(0, 1), 4);
        x.guess(0, 1, 9);
        Checks.due("9 is to know", x.person(0, 9), 2);
        Checks.due("the other one does not", x.person(1, 9), 0);
        Checks.due("a pair", x.count(6), 1);
        Checks.due("dumb", x.both(1, 0), 2);
        x.guess(1, 0, 9);
        Checks.due("the pair counts once", x.count(6), 1);
    }

    private static void rung() {
        Doc.says("and RUNG: how often both rang the bell together, 0 to 99 (0 at first).");
        TwinRopes x = Checks.town("person at 0;person at 1;person at 2", ALL_HOURS_FIRST, ALL_HOURS_SECOND);
        Checks.tellLaw(x, "");
        Checks.due("rung at first", x.rung(0, 1), 0);
        x.hours(98);
        Checks.due("rung 98", x.rung(0, 1), 98);
        x.hours(1);
        Checks.due("rung 99", x.rung(0, 1), 99);
        Checks.due("it rings yet", x.hours(1), 1);
        Checks.due("rung 99 yet", x.rung(0, 1), 99);
        Checks.due("of both", x.rung(1, 0), 99);
        Checks.due("not of others", x.rung(0, 2) + x.rung(2, 0) + x.rung(1, 2) + x.rung(2, 1), 0);
        x.guess(0, 1, 5);
        x.rope(1, 4, 2);
        x.hours(1);
        Checks.due("others, once", x.rung(2, 0), 1);
        TwinRopes y = Checks.town("person at 0;person at 1;guess 0 1 5", ALL_HOURS_FIRST, ALL_HOURS_SECOND);
        y.hours(4);
        Checks.due("cracked is not rung", y.rung(0, 1), 0);
        y.hours(4);
        Checks.due("dumb is not rung", y.rung(0, 1), 0);
    }

    private static void thePlan() {
        Doc.says("THE PLAN: of each LOFT in each HOUR a PERSON, or none (at first);");
        TwinRopes x = Checks.town(EIGHT);
        for (int hour = 0; hour < 12; hour++) {
            Checks.due("nobody in loft 0", x.plan(0, hour), -1);
            Checks.due("nobody in loft 1", x.plan(1, hour), -1);
        }
        for (int person = 0; person < 8; person++) {
            x.rope(1, 11, person);
            Checks.due("in loft 1", x.plan(1, 11), person);
        }
        Checks.due("one at a time", x.count(8), 1);
        Checks.due("in no other loft", x.plan(0, 11), -1);
        Checks.due("in no other hour", x.plan(1, 10), -1);
    }

    private static void neverInBothLofts() {
        Doc.says("none is in both LOFTS in one HOUR.");
        TwinRopes x = Checks.town("person at 0;person at 1;rope 0 5 0;rope 1 5 1");
        Checks.refusedWhole(x, "rope", IllegalStateException.class, () -> x.rope(1, 5, 0));
        Checks.refusedWhole(x, "rope", IllegalStateException.class, () -> x.rope(0, 5, 1));
        Checks.wrongTown(x, "rope 1 5 ^0");
        Checks.wrongTown(x, "rope 0 5 ^001");
        Checks.due("one is in the other loft in another hour", x.rope(1, 4, 0), -1);
        x.change(5);
        Checks.due("change puts both", x.plan(0, 5) * 10 + x.plan(1, 5), 10);
        Checks.refusedWhole(x, "rope", IllegalStateException.class, () -> x.rope(0, 5, 0));
        x.off(0, 5);
        Checks.refusedWhole(x, "rope in place of nobody", IllegalStateException.class, () -> x.rope(0, 5, 0));
        x.off(1, 5);
        Checks.due("then it may", x.rope(0, 5, 0), -1);
    }

    private static void doubt() {
        Doc.says("DOUBT 1 to 9 (5 at first).");
        TwinRopes x = new TwinRopes();
        Checks.due("doubt at first", x.count(5), 5);
        Checks.tellTown(x, "doubt 1");
        Checks.due("doubt 1", x.count(5), 1);
        Checks.tellTown(x, "doubt 9");
        Checks.due("doubt 9", x.count(5), 9);
        Checks.wrongTown(x, "doubt ^0");
        Checks.wrongTown(x, "doubt ^10");
        Checks.due("doubt 9 yet", x.count(5), 9);
    }

    private static void hourAndDay() {
        Doc.says("HOUR (0 at first), DAY 0 to 9999 (0 at first).");
        TwinRopes x = Checks.town("person at 0;person at 1;day 999", ALL_HOURS_FIRST);
        TwinRopes y = new TwinRopes();
        Checks.due("hour at first", y.count(3), 0);
        Checks.due("day at first", y.count(4), 0);
        // more calls than an object is promised for, as no less lead to DAY 9999
        for (int i = 0; i < 899; i++) {
            x.hours(120);
        }
        x.hours(119);
        Checks.due("hour 11", x.count(3), 11);
        Checks.due("day 9998", x.count(4), 9998);
        x.hours(1);
        Checks.due("hour 0", x.count(3), 0);
        Checks.due("day 9999", x.count(4), 9999);
        Checks.due("row of the day ahead", x.log(0, 0), 9998);
        x.hours(12);
        Checks.due("day 9999 yet", x.count(4), 9999);
        Checks.due("row of day 9999", x.log(0, 0) * 100 + x.log(0, 1), 999911);
        x.hours(120);
        Checks.due("for ever", x.count(4), 9999);
        // 9999 is above 999 ten times and 8, not above 999 ten times and 9
        Checks.tellLaw(x, "guess 9 if day > 999+999+999+999+999+999+999+999+999+999+9");
        Checks.due("both go on in day 9999", x.lasts(0, 1), 60);
        Checks.tellLaw(x, "guess 9 if day > 999+999+999+999+999+999+999+999+999+999+8");
        Checks.due("which is their day", x.lasts(0, 1), 1);
    }
}

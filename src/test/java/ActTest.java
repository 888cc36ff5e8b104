/** The ACTS, each also if it changes nothing, and what is refused. */
public final class ActTest extends PromiseCase {
    private static final String TWO = "person at 0;person at 7 sworn;person at 0;guess 0 1 4;guess 1 0 3;guess 2 1 9;rope 0 0 0;rope 1 0 1";

    public static void main(String[] args) {
        acts();
        actsOfEachHour();
        rope();
        off();
        change();
        swear();
        move();
        guess();
        forget();
        hoursAreOne();
        noActs();
        Checks.finish("ActTest");
    }

    private static void acts() {
        Doc.says("ACTS: a PERSON is put to a rope (in place of whoever is there; not, if it is at the other rope in that HOUR); one is taken "
                + "off; both of an HOUR change ropes; one is SWORN, or not; one has another HAUNT; a GUESS is told; one forgets all (its "
                + "GUESS of all others, and theirs of it, is 0; RUNG stays); HOURS (each also if it changes nothing).");
        TwinRopes x = Checks.town(TWO);
        int acts = 0;
        Checks.due("none yet", x.count(11), acts);
        x.rope(0, 0, 0);
        Checks.due("rope of the same one", x.count(11), ++acts);
        x.rope(0, 0, 2);
        Checks.due("rope", x.count(11), ++acts);
        x.off(0, 0);
        Checks.due("off", x.count(11), ++acts);
        x.change(5);
        Checks.due("change of nobody", x.count(11), ++acts);
        x.swear(1, true);
        Checks.due("sworn already", x.count(11), ++acts);
        x.move(1, 7);
        Checks.due("to its own haunt", x.count(11), ++acts);
        x.guess(0, 1, 4);
        Checks.due("what it guesses already", x.count(11), ++acts);
        x.forget(0);
        Checks.due("forget", x.count(11), ++acts);
        x.forget(0);
        Checks.due("forget nothing", x.count(11), ++acts);
        x.hours(1);
        Checks.due("an hour", x.count(11), ++acts);
        x.hours(120);
        Checks.due("hours of one call", x.count(11), ++acts);
        x.swear(1, false);
        Checks.due("twelve", x.count(11), 12);
        x.swear(1, false);
        Checks.due("no more than twelve", x.count(11), 12);
    }

    private static void actsOfEachHour() {
        TwinRopes x = Checks.town(TWO);
        for (int hour = 1; hour < 12; hour++) {
            Checks.due("rope", x.rope(0, hour, 2), -1);
            Checks.due("change", x.change(hour), -1);
            Checks.due("off", x.off(1, hour), 2);
            Checks.due("nobody", x.plan(0, hour) + x.plan(1, hour), -2);
        }
        Checks.due("the hour that none of it is of", x.plan(0, 0) * 10 + x.plan(1, 0), 1);
    }

    private static void rope() {
        Doc.promise(15, "Put to a rope: who was there; NONE. IllegalStateException: that one is at the other rope in that HOUR.");
        TwinRopes x = Checks.town(TWO);
        Checks.due("nobody was there", x.rope(0, 11, 2), -1);
        Checks.due("2 was there", x.rope(0, 11, 0), 2);
        Checks.due("0 was there", x.rope(0, 11, 0), 0);
        Checks.due("0 is", x.plan(0, 11), 0);
        Checks.due("in loft 1 nobody is", x.plan(1, 11), -1);
        Checks.refusedWhole(x, "rope", IllegalStateException.class, () -> x.rope(1, 11, 0));
        Checks.refusedWhole(x, "rope in place of another", IllegalStateException.class, () -> x.rope(1, 0, 0));
        Checks.refusedWhole(x, "rope of loft 0", IllegalStateException.class, () -> x.rope(0, 0, 1));
        Checks.due("in another hour it may", x.rope(1, 10, 0), -1);
        badLoft(x, "rope", loft -> x.rope(loft, 0, 0));
        badHour(x, "rope", hour -> x.rope(1, hour, 0));
        badPerson(x, "rope", person -> x.rope(1, 0, person));
        badPerson(x, "rope at nobody's", person -> x.rope(1, 5, person));
    }

    private static void off() {
        Doc.promise(16, "Taken off: who was there. IllegalStateException: nobody was.");
        TwinRopes x = Checks.town(TWO);
        Checks.refusedWhole(x, "off of nobody", IllegalStateException.class, () -> x.off(0, 11));
        Checks.refusedWhole(x, "off of nobody", IllegalStateException.class, () -> x.off(1, 11));
        x.rope(1, 11, 2);
        Checks.refusedWhole(x, "off at the other rope", IllegalStateException.class, () -> x.off(0, 11));
        Checks.due("2 was there", x.off(1, 11), 2);
        Checks.due("0 was there", x.off(0, 0), 0);
        Checks.due("the other one is", x.plan(1, 0), 1);
        Checks.due("1 was there", x.off(1, 0), 1);
        Checks.refusedWhole(x, "off again", IllegalStateException.class, () -> x.off(1, 0));
        badLoft(x, "off", loft -> x.off(loft, 0));
        badHour(x, "off", hour -> x.off(0, hour));
    }

    private static void change() {
        Doc.promise(17, "Both ropes of an HOUR change: who is in LOFT 0 then; NONE.");
        TwinRopes x = Checks.town(TWO);
        Checks.due("1 is in loft 0", x.change(0), 1);
        Checks.due("0 in loft 1", x.plan(1, 0), 0);
        Checks.due("0 is again", x.change(0), 0);
        x.off(1, 0);
        Checks.due("nobody is", x.change(0), -1);
        Checks.due("one alone changes", x.plan(1, 0), 0);
        Checks.due("and back", x.change(0), 0);
        Checks.due("nobody changes", x.change(11), -1);
        Checks.due("nobody is there yet", x.plan(0, 11) + x.plan(1, 11), -2);
        badHour(x, "change", x::change);
        Checks.due("without people", new TwinRopes().change(0), -1);
    }

    private static void swear() {
        Doc.promise(18, "SWORN, or not: whether that changed.");
        TwinRopes x = Checks.town(TWO);
        Checks.due("sworn", x.swear(0, true), true);
        Checks.due("sworn already", x.swear(0, true), false);
        Checks.due("is", x.person(0, 3), 1);
        Checks.due("not sworn", x.swear(0, false), true);
        Checks.due("not sworn already", x.swear(0, false), false);
        Checks.due("is not", x.person(0, 3), 0);
        Checks.due("the others as they were", x.count(7), 2);
        badPerson(x, "swear", person -> x.swear(person, true));
        badPerson(x, "swear not", person -> x.swear(person, false));
    }

    private static void move() {
        Doc.promise(19, "Another HAUNT: what it was.");
        TwinRopes x = Checks.town(TWO);
        Checks.due("0 was", x.move(0, 7), 0);
        Checks.due("7 was", x.move(0, 0), 7);
        Checks.due("0 was", x.move(0, 0), 0);
        Checks.due("the other one's stays", x.person(1, 0), 7);
        for (int haunt : new int[] {-1, 8, Integer.MIN_VALUE, Integer.MAX_VALUE}) {
            Checks.refusedWhole(x, "move to " + haunt, IndexOutOfBoundsException.class, () -> x.move(2, haunt));
            badPerson(x, "move to " + haunt, person -> x.move(person, haunt));
        }
        badPerson(x, "move", person -> x.move(person, 7));
    }

    private static void guess() {
        Doc.promise(20, "A GUESS is told (of the first one of the other one): what it was. IllegalArgumentException: both are one, or it is "
                + "none (0 to 9).");
        TwinRopes x = Checks.town(TWO);
        Checks.due("4 was", x.guess(0, 1, 0), 4);
        Checks.due("0 was", x.guess(0, 1, 9), 0);
        Checks.due("9 was", x.guess(0, 1, 9), 9);
        Checks.due("of the other one", x.guessed(1, 0), 3);
        badNumber(x, "guess", 0, 9, n -> x.guess(0, 1, n));
        badTwo(x, "guess", (person, other) -> x.guess(person, other, 0));
        badTwo(x, "guess of none", (person, other) -> x.guess(person, other, -1));
    }

    private static void forget() {
        Doc.promise(21, "One forgets all: what it GUESSED of all others, and they of it, together.");
        TwinRopes x = Checks.town(TWO);
        x.hours(1);
        Checks.due("5 and 4 and 9", x.forget(1), 18);
        Checks.due("nothing then", x.forget(1), 0);
        Checks.due("0 guesses nothing", x.count(9), 0);
        Checks.due("rung stays", x.rung(0, 1), 1);
        x.guess(0, 2, 6);
        x.guess(2, 0, 1);
        Checks.due("who is not of them", x.forget(1), 0);
        Checks.due("theirs stays", x.guessed(0, 2) * 10 + x.guessed(2, 0), 61);
        Checks.due("of the last one", x.forget(2), 7);
        badPerson(x, "forget", x::forget);
        TwinRopes eight = Checks.town(EIGHT);
        for (int other = 1; other < 8; other++) {
            eight.guess(0, other, 9);
            eight.guess(other, 0, 9);
        }
        Checks.due("14 times 9", eight.forget(0), 126);
        Checks.due("all is 0", eight.count(9), 0);
    }

    private static void hoursAreOne() {
        TwinRopes x = Checks.town(TWO);
        x.hours(120);
        Checks.due("one act", x.count(11), 1);
        x.undo();
        Checks.due("undone at once", x.count(4) * 1000 + x.count(3) * 100 + x.count(10), 0);
        x.hours(1);
        x.hours(1);
        Checks.due("two acts", x.count(11), 2);
        x.undo();
        Checks.due("one by one", x.count(3), 1);
    }

    private static void noActs() {
        TwinRopes x = Checks.town(TWO);
        x.seed(7);
        x.image();
        x.chimes(100);
        x.trial(100, true);
        x.span(100, true);
        x.pulled(true);
        x.listen();
        x.teams(0);
        x.end(0);
        x.feed(1, 2, 3, 4, 5);
        Checks.due("no act", x.count(11), 0);
        Checks.due("nothing to be undone", x.undo(), false);
    }
}

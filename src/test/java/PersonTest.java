import java.util.NoSuchElementException;

/** What is told of one or of two: BUSY, DUE, BILL, KEPT, SHARE, NEAR, KNOWS, GUESS, RUNG, who is MOST GUESSED and NOSY. */
public final class PersonTest extends PromiseCase {
    public static void main(String[] args) {
        promise7();
        busy();
        due();
        bill();
        kept();
        near();
        share();
        shareOfTheLogAlone();
        promise8();
        promise9();
        mostGuessed();
        nosy();
        twins();
        led();
        Checks.finish("PersonTest");
    }

    private static void promise7() {
        Doc.promise(7, "Of a PERSON what 0 HAUNT, 1 ROAMS, 2 PAY, 3 1 if SWORN, 4 BUSY, as bits, 5 DUE, 6 KEPT, 7 SHARE, 8 NEAR, "
                + "9 of whom it KNOWS, as bits. NoSuchElementException: another what.");
        TwinRopes x = Checks.town("person at 7 roams 100 pay 99 sworn;person at 7 roams 1 pay 2;rope 0 11 0;rope 1 11 1;rope 1 0 0;guess 0 1 9");
        Checks.tellLaw(x, "");
        int[] first = {7, 100, 99, 1, 0b100000000001, 198, 1, 0, 0b10, 0b10};
        int[] second = {7, 1, 2, 0, 0b100000000000, 2, 0, 0, 0b01, 0};
        for (int what = 0; what < 10; what++) {
            Checks.due("person(0, " + what + ")", x.person(0, what), first[what]);
            Checks.due("person(1, " + what + ")", x.person(1, what), second[what]);
        }
        for (int what : new int[] {-1, 10, Integer.MIN_VALUE, Integer.MAX_VALUE}) {
            Checks.refusedWhole(x, "person of another what", NoSuchElementException.class, () -> x.person(1, what));
            badPerson(x, "person of another what", person -> x.person(person, what));
        }
        for (int what = 0; what < 10; what++) {
            int one = what;
            badPerson(x, "person of what " + what, person -> x.person(person, one));
        }
    }

    private static void busy() {
        Doc.says("BUSY of one: HOURS of THE PLAN in which it is, as bits.");
        TwinRopes x = Checks.town("person at 0;person at 0", ALL_HOURS_FIRST);
        Checks.due("busy in all", x.person(0, 4), 4095);
        Checks.due("busy in none", x.person(1, 4), 0);
        x.off(0, 0);
        Checks.due("busy in 11", x.person(0, 4), 4094);
        x.rope(1, 0, 0);
        Checks.due("in either loft", x.person(0, 4), 4095);
        x.rope(1, 11, 1);
        Checks.due("both in one hour", x.person(1, 4) * 10000 + x.person(0, 4), 20484095);
        x.off(1, 11);
        Checks.due("off", x.person(1, 4), 0);
    }

    private static void due() {
        Doc.says("DUE of one: how often it is in THE PLAN times its PAY.");
        TwinRopes x = Checks.town("person at 0 pay 99;person at 0;person at 0 pay 1", ALL_HOURS_FIRST, ALL_HOURS_SECOND);
        Checks.due("12 times 99", x.person(0, 5), 1188);
        Checks.due("12 times 0", x.person(1, 5), 0);
        Checks.due("never", x.person(2, 5), 0);
        x.rope(1, 3, 2);
        Checks.due("once 1", x.person(2, 5), 1);
        x.hours(120);
        Checks.due("by the plan, not by hours", x.person(0, 5), 1188);
        x.off(0, 0);
        Checks.due("11 times 99", x.person(0, 5), 1089);
    }

    private static void bill() {
        Doc.says("BILL: DUE of all together.");
        Doc.promise(40, "BILL.");
        TwinRopes x = Checks.town("person at 0 pay 99;person at 0 pay 99;person at 0 pay 50", ALL_HOURS_FIRST, ALL_HOURS_SECOND);
        Checks.due("at most", x.bill(), 24 * 99);
        x.rope(0, 11, 2);
        Checks.due("one for another", x.bill(), 23 * 99 + 50);
        x.off(0, 11);
        Checks.due("none", x.bill(), 23 * 99);
        Checks.due("nobody", new TwinRopes().bill(), 0);
        Checks.due("nobody in the plan", Checks.town("person at 0 pay 99").bill(), 0);
        Checks.due("eight, each once", Checks.town("person at 0 pay 1;person at 0 pay 2;person at 0 pay 3;person at 0 pay 4;person at 0 pay 5;"
                + "person at 0 pay 6;person at 0 pay 7;person at 0 pay 8", "rope 0 0 0;rope 1 0 1;rope 0 1 2;rope 1 1 3;rope 0 2 4;"
                + "rope 1 2 5;rope 0 3 6;rope 1 3 7").bill(), 36);
    }

    private static void kept() {
        Doc.says("KEPT of one: how many others GUESS nothing of it.");
        TwinRopes x = Checks.town(EIGHT);
        Checks.due("from all others", x.person(7, 6), 7);
        x.guess(0, 7, 1);
        Checks.due("1 is something", x.person(7, 6), 6);
        x.guess(7, 0, 9);
        Checks.due("what it guesses itself is nothing", x.person(7, 6), 6);
        Checks.due("nor is that kept from 0", x.person(0, 6), 6);
        for (int other = 0; other < 7; other++) {
            x.guess(other, 7, 9);
        }
        Checks.due("from nobody", x.person(7, 6), 0);
        Checks.due("one alone has nobody", Checks.town("person at 0").person(0, 6), 0);
    }

    private static void near() {
        Doc.says("NEAR one: others of the same HAUNT, as bits.");
        TwinRopes x = Checks.town(EIGHT_NEAR);
        Checks.due("all others of 0", x.person(0, 8), 0b11111110);
        Checks.due("all others of 7", x.person(7, 8), 0b01111111);
        x.move(7, 4);
        Checks.due("nobody", x.person(7, 8), 0);
        Checks.due("all but two", x.person(3, 8), 0b01110111);
        x.move(0, 4);
        Checks.due("0 and 7", x.person(7, 8) * 1000 + x.person(0, 8), 1128);
        Checks.due("one alone", Checks.town("person at 0").person(0, 8), 0);
    }

    private static void share() {
        Doc.says("SHARE of one: rows of TONE 4 in THE LOG in which it is, in hundredths of all rows of TONE 4, rounded down (0 without).");
        TwinRopes x = Checks.town(EIGHT, "rope 0 0 0;rope 1 0 1;rope 0 1 1;rope 1 1 0;rope 0 2 1;rope 1 2 2;rope 0 3 3");
        Checks.tellLaw(x, "");
        Checks.due("without", x.person(0, 7), 0);
        x.hours(3);
        Checks.due("2 of 3", x.person(0, 7), 66);
        Checks.due("3 of 3", x.person(1, 7), 100);
        Checks.due("1 of 3", x.person(2, 7), 33);
        Checks.due("0 of 3", x.person(7, 7), 0);
        x.hours(1);
        Checks.due("a row of one alone is none of these", x.person(3, 7), 0);
        Checks.due("nor of all", x.person(1, 7), 100);
        x.guess(1, 2, 5);
        x.hours(12);
        Checks.due("a cracked one is none: 4 of 5", x.person(0, 7), 80);
        Checks.due("1 of 5", x.person(2, 7), 20);
        x.guess(1, 2, 9);
        x.hours(12);
        Checks.due("nor a dumb one: 6 of 7", x.person(0, 7), 85);
        Checks.due("1 of 7", x.person(2, 7), 14);
    }

    private static void shareOfTheLogAlone() {
        TwinRopes x = Checks.town("person at 0;person at 0;person at 0", ALL_HOURS_FIRST, ALL_HOURS_SECOND);
        Checks.tellLaw(x, "");
        x.hours(1);
        x.rope(1, 1, 2);
        x.hours(1);
        x.rope(1, 1, 1);
        x.hours(58);
        Checks.due("1 of 60", x.person(2, 7), 1);
        Checks.due("59 of 60", x.person(1, 7), 98);
        Checks.due("60 of 60", x.person(0, 7), 100);
        x.hours(1);
        Checks.due("1 of 60 yet", x.person(2, 7), 1);
        x.hours(1);
        Checks.due("its row is gone", x.person(2, 7), 0);
        Checks.due("60 of 60", x.person(1, 7), 100);
        x.rope(1, 2, 2);
        x.hours(1);
        Checks.due("the latest row of 60", x.person(2, 7), 1);
        Checks.due("the others", x.person(1, 7), 98);
        x.rope(1, 2, 1);
        x.hours(60);
        x.guess(0, 1, 5);
        x.hours(59);
        Checks.due("1 of 1", x.person(1, 7), 100);
        x.hours(1);
        Checks.due("0 of 0", x.person(1, 7), 0);
    }

    private static void promise8() {
        Doc.promise(8, "GUESS of the first one of the other one. IllegalArgumentException: both are one.");
        TwinRopes x = Checks.town(EIGHT, "guess 0 7 1;guess 7 0 9;guess 3 4 5");
        Checks.due("guessed(0, 7)", x.guessed(0, 7), 1);
        Checks.due("guessed(7, 0)", x.guessed(7, 0), 9);
        Checks.due("guessed(3, 4)", x.guessed(3, 4), 5);
        Checks.due("guessed(4, 3)", x.guessed(4, 3), 0);
        badTwo(x, "guessed", x::guessed);
        TwinRopes nobody = new TwinRopes();
        Checks.noIndex("guessed of nobody", () -> nobody.guessed(0, 0));
    }

    private static void promise9() {
        Doc.promise(9, "RUNG of both. IllegalArgumentException: both are one.");
        TwinRopes x = Checks.town(EIGHT, "rope 0 0 0;rope 1 0 7;rope 0 1 6;rope 1 1 5;rope 0 2 7;rope 1 2 0");
        x.hours(12);
        Checks.due("rung(0, 7)", x.rung(0, 7), 2);
        Checks.due("rung(7, 0)", x.rung(7, 0), 2);
        Checks.due("rung(5, 6)", x.rung(5, 6), 1);
        Checks.due("rung(0, 6)", x.rung(0, 6), 0);
        badTwo(x, "rung", x::rung);
        TwinRopes nobody = new TwinRopes();
        Checks.noIndex("rung of nobody", () -> nobody.rung(0, 1));
    }

    private static void mostGuessed() {
        Doc.says("MOST GUESSED: of whom all others together GUESS the most (of several the least; none, if nobody anything).");
        Doc.promise(41, "MOST GUESSED; NONE.");
        TwinRopes x = Checks.town(EIGHT);
        Checks.due("nobody anything", x.most(), -1);
        x.guess(0, 7, 1);
        Checks.due("of 7", x.most(), 7);
        x.guess(0, 6, 1);
        Checks.due("the least of two", x.most(), 6);
        x.guess(1, 7, 1);
        Checks.due("all others together", x.most(), 7);
        x.guess(7, 0, 2);
        Checks.due("the least of two", x.most(), 0);
        x.guess(6, 7, 9);
        Checks.due("of 7, not who guesses", x.most(), 7);
        Checks.due("of nobody", new TwinRopes().most(), -1);
        Checks.due("of one alone", Checks.town("person at 0").most(), -1);
    }

    private static void nosy() {
        Doc.says("NOSY: who GUESSES the most of all others together (likewise).");
        Doc.promise(42, "NOSY; NONE.");
        TwinRopes x = Checks.town(EIGHT);
        Checks.due("nobody anything", x.nosy(), -1);
        x.guess(7, 0, 1);
        Checks.due("7", x.nosy(), 7);
        x.guess(6, 0, 1);
        Checks.due("the least of two", x.nosy(), 6);
        x.guess(7, 1, 1);
        Checks.due("of all others together", x.nosy(), 7);
        x.guess(0, 7, 2);
        Checks.due("the least of two", x.nosy(), 0);
        x.guess(7, 6, 9);
        Checks.due("7, not of whom", x.nosy(), 7);
        Checks.due("of nobody", new TwinRopes().nosy(), -1);
        Checks.due("of one alone", Checks.town("person at 0").nosy(), -1);
    }

    private static void twins() {
        Doc.says("TWINS: pairs of PEOPLE of like HAUNT, ROAMS and PAY: how many.");
        Doc.promise(45, "TWINS.");
        Checks.due("nobody", new TwinRopes().twins(), 0);
        Checks.due("one", Checks.town("person at 0").twins(), 0);
        Checks.due("two", Checks.town("person at 0 sworn;person at 0").twins(), 1);
        TwinRopes x = Checks.town(EIGHT_NEAR);
        Checks.due("eight", x.twins(), 28);
        x.move(7, 0);
        Checks.due("seven", x.twins(), 21);
        x.move(0, 0);
        Checks.due("six and two", x.twins(), 16);
        Checks.due("eight apart", Checks.town(EIGHT).twins(), 0);
        Checks.due("by what they roam", Checks.town("person at 0 roams 1 pay 1;person at 0 roams 2 pay 1;person at 0 roams 1 pay 1").twins(), 1);
        Checks.due("by their pay", Checks.town("person at 0 roams 1 pay 1;person at 0 roams 1 pay 2;person at 0 roams 1 pay 2").twins(), 1);
    }

    private static void led() {
        Doc.says("LED: how many rows of THE LOG are of a PERSON; the DAY of the latest (none).");
        Doc.promise(50, "LED: how many rows (day false), or the DAY; NONE.");
        TwinRopes x = Checks.town(EIGHT, "rope 0 0 0;rope 1 0 7;rope 0 11 7;rope 1 5 0");
        Checks.due("no row", x.led(7, false), 0);
        Checks.due("no day", x.led(7, true), -1);
        x.hours(1);
        Checks.due("a row of loft 0", x.led(0, false) * 100 + x.led(0, true), 100);
        Checks.due("a row of loft 1", x.led(7, false) * 100 + x.led(7, true), 100);
        Checks.due("none of another", x.led(6, false) * 100 + x.led(6, true), -1);
        x.hours(23);
        Checks.due("four rows", x.led(7, false) * 100 + x.led(7, true), 401);
        x.off(0, 11);
        x.off(1, 0);
        x.hours(12);
        Checks.due("the latest of day 1", x.led(7, false) * 100 + x.led(7, true), 401);
        Checks.due("of day 2", x.led(0, false) * 100 + x.led(0, true), 602);
        badPerson(x, "led", person -> x.led(person, false));
        badPerson(x, "led", person -> x.led(person, true));
        TwinRopes y = Checks.town("person at 0;person at 0", ALL_HOURS_FIRST);
        y.rope(1, 0, 1);
        y.hours(1);
        y.off(1, 0);
        y.hours(59);
        Checks.due("60 rows, one of 1", y.led(0, false) * 10 + y.led(1, false), 601);
        y.hours(1);
        Checks.due("60 rows, none of 1", y.led(0, false) * 10 + y.led(1, false), 600);
        Checks.due("nor its day", y.led(1, true), -1);
    }
}

/** What is asked of pairs: LASTS, LONGEST, TEAMS, FRESH, CHEAP, CHEAPEST. */
public final class PairTest extends PromiseCase {
    public static void main(String[] args) {
        lasts();
        lastsAtTheBounds();
        lastsWhateverElse();
        lastsAsTimeGoesOn();
        lastsByBothAsAhead();
        longest();
        teamsHowMuch();
        teamsWithWhom();
        teamsTheFirstWay();
        fresh();
        cheap();
        cheapest();
        Checks.finish("PairTest");
    }

    private static void lasts() {
        Doc.says("LASTS of two: how many times, one HOUR behind another, from now on, both at the ropes");
        Doc.promise(24, "LASTS. IllegalArgumentException: both are one.");
        TwinRopes x = Checks.town(EIGHT);
        for (int guess = 0; guess <= 9; guess++) {
            x.guess(0, 7, guess);
            Checks.due("lasts from " + guess, x.lasts(0, 7), Math.max(0, 5 - guess));
            Checks.due("lasts from " + guess + ", the other way", x.lasts(7, 0), Math.max(0, 5 - guess));
        }
        Checks.tellTown(x, "doubt 9");
        Checks.due("known", x.lasts(0, 7), 0);
        Checks.due("till known", x.lasts(6, 7), 9);
        x.guess(7, 6, 8);
        Checks.due("8 is below DOUBT", x.lasts(6, 7), 1);
        Checks.tellTown(x, "doubt 1");
        Checks.due("once", x.lasts(0, 1), 1);
        x.guess(1, 0, 1);
        Checks.due("never", x.lasts(0, 1), 0);
        badTwo(x, "lasts", x::lasts);
    }

    private static void lastsAtTheBounds() {
        Doc.says("it RINGS, till it does not (0 to 60; 60 at most).");
        TwinRopes x = Checks.town("person at 0;person at 0");
        Checks.tellLaw(x, "guess 0");
        Checks.due("for ever", x.lasts(0, 1), 60);
        for (int rung = 0; rung <= 62; rung++) {
            // it rings once more when RUNG is above the number, and both know then
            Checks.tellLaw(x, "guess 9 if rung > " + rung);
            Checks.due("till rung is above " + rung, x.lasts(0, 1), Math.min(60, rung + 2));
        }
        Checks.tellLaw(x, "guess 5 if rang;hush 5 if not rang");
        Checks.due("till it does not, though it would again", x.lasts(0, 1), 1);
    }

    private static void lastsWhateverElse() {
        Doc.says("(whatever THE PLAN says; nothing else;");
        TwinRopes x = Checks.town("person at 0 roams 100;person at 0 roams 100;person at 0 roams 100", ALL_HOURS_FIRST, ALL_HOURS_SECOND);
        Checks.due("those of the plan", x.lasts(0, 1), 5);
        Checks.due("one of the plan", x.lasts(0, 2), 5);
        Checks.tellLaw(x, "guess 1 if one + other < 2;tell 30");
        Checks.due("what 0 and 1 would hear is nothing to 0 and 2", x.lasts(0, 2), 60);
        Checks.due("nor to 1 and 2, who would meet", x.lasts(1, 2), 60);
        TwinRopes y = Checks.town("person at 0;person at 0");
        Checks.due("nobody is in the plan", y.lasts(0, 1), 5);
    }

    private static void lastsAsTimeGoesOn() {
        Doc.says("HOUR and DAY go on, no meetings)");
        TwinRopes x = Checks.town("person at 0 roams 100;person at 0 roams 100;hour 11;day 999");
        Checks.due("no meeting at the day's end", x.lasts(0, 1), 5);
        Checks.tellLaw(x, "guess 9 if hour < 1;tell 9");
        Checks.due("11, 0", x.lasts(0, 1), 2);
        Checks.tellLaw(x, "guess 9 if hour > 10 and day > 999");
        Checks.due("till hour 11 of day 1000", x.lasts(0, 1), 13);
        Checks.tellLaw(x, "guess 9 if day > 999 + 4");
        Checks.due("till day 1004", x.lasts(0, 1), 50);
        Checks.tellLaw(x, "guess 9 if day > 999 + 5");
        Checks.due("60 hours are of day 1004 at most", x.lasts(0, 1), 60);
        x.hours(1);
        Checks.due("from now on", x.lasts(0, 1), 60);
        x.hours(2);
        Checks.due("hour 2 of day 1000: 58 to day 1005", x.lasts(0, 1), 59);
        Checks.due("asking changes no hour", x.count(3) * 10000 + x.count(4), 21000);
    }

    private static void lastsByBothAsAhead() {
        TwinRopes x = Checks.town("person at 0 sworn;person at 1");
        // of the sworn one 1, 2, 3, ..; of the other one 2, 4, 6
        Checks.tellLaw(x, "guess 1 if sworn;guess 2 if not sworn");
        Checks.due("2, 4, 6", x.lasts(0, 1), 3);
        Checks.due("the other way", x.lasts(1, 0), 3);
        Checks.tellLaw(x, "guess 3 if guess < back + 1 and back < guess + 1");
        // both 3, then 6
        Checks.due("both as it is ahead", x.lasts(0, 1), 2);
        x.guess(0, 1, 1);
        Checks.due("then neither", x.lasts(0, 1), 60);
        Checks.tellLaw(x, "hush 30;guess 4 if one > 0");
        Checks.due("no less than 0", x.lasts(0, 1), 60);
    }

    private static void longest() {
        Doc.says("LONGEST: the two of the greatest LASTS: 8 times the lesser one and the other one (of several the least; none with fewer than "
                + "two PEOPLE).");
        Doc.promise(25, "LONGEST; NONE.");
        Checks.due("nobody", new TwinRopes().longest(), -1);
        Checks.due("one", Checks.town("person at 0").longest(), -1);
        Checks.due("two", Checks.town("person at 0;person at 0").longest(), 1);
        Checks.due("two, though never", Checks.town("person at 0;person at 0;guess 1 0 9").longest(), 1);
        TwinRopes x = Checks.town(EIGHT);
        Checks.due("eight alike", x.longest(), 1);
        for (int lesser = 0; lesser < 7; lesser++) {
            for (int other = lesser + 1; other < 8; other++) {
                x.guess(other, lesser, lesser < 6 ? 2 : 1);
            }
        }
        Checks.due("the last two", x.longest(), 8 * 6 + 7);
        x.guess(5, 0, 1);
        Checks.due("of two such the least", x.longest(), 5);
        x.guess(5, 1, 0);
        Checks.due("1 and 5", x.longest(), 13);
        TwinRopes y = Checks.town("person at 0;person at 0;person at 0;guess 0 1 1;guess 0 2 2;guess 1 2 1");
        Checks.due("of 0 1 and 1 2", y.longest(), 1);
        Checks.tellLaw(y, "guess 0");
        y.guess(0, 1, 9);
        Checks.due("of 0 2 and 1 2, both 60", y.longest(), 2);
    }

    private static void teamsHowMuch() {
        Doc.says("TEAMS: PEOPLE put together two by two, each in one such pair at most, so that LASTS of all pairs together are the most: "
                + "how much;");
        Checks.due("nobody", new TwinRopes().teams(-1), 0);
        Checks.due("one", Checks.town("person at 0").teams(-1), 0);
        TwinRopes x = new TwinRopes();
        int[] want = {0, 5, 5, 10, 10, 15, 15, 20};
        for (int people = 1; people <= 8; people++) {
            Checks.tellTown(x, "person at 0");
            Checks.due("teams of " + people, x.teams(-1), want[people - 1]);
        }
        Checks.tellLaw(x, "guess 0");
        Checks.due("at most", x.teams(-1), 240);
        for (int person = 0; person < 8; person++) {
            for (int other = 0; other < person; other++) {
                x.guess(person, other, 5);
            }
        }
        Checks.due("none rings", x.teams(-1), 0);
        x.guess(7, 0, 4);
        x.guess(7, 1, 4);
        x.guess(7, 2, 4);
        Checks.due("each in one pair at most", x.teams(-1), 60);
        x.guess(1, 0, 4);
        Checks.due("0 and 1, 2 and 7", x.teams(-1), 120);
    }

    private static void teamsWithWhom() {
        Doc.says("with whom one is in the first such way");
        Doc.promise(26, "TEAMS: how much (person NONE), or with whom one is; NONE.");
        Checks.due("one", Checks.town("person at 0").teams(0), -1);
        mates(Checks.town("person at 0;person at 0"), 1, 0);
        mates(Checks.town("person at 0;person at 0;guess 1 0 5"), -1, -1);
        mates(Checks.town("person at 0;person at 0;guess 1 0 4"), 1, 0);
        mates(Checks.town("person at 0;person at 0;person at 0"), -1, 2, 1);
        mates(Checks.town("person at 0;person at 0;person at 0;guess 1 2 1"), 1, 0, -1);
        mates(Checks.town("person at 0;person at 0;person at 0;guess 2 1 1;guess 0 1 1"), 2, -1, 0);
        TwinRopes x = Checks.town(EIGHT);
        mates(x, 1, 0, 3, 2, 5, 4, 7, 6);
        badPersonOfTeams(x);
        badPersonOfTeams(new TwinRopes());
    }

    private static void badPersonOfTeams(TwinRopes x) {
        for (int person : new int[] {-2, x.count(0), 8, Integer.MIN_VALUE, Integer.MAX_VALUE}) {
            Checks.refusedWhole(x, "teams of " + person, IndexOutOfBoundsException.class, () -> x.teams(person));
        }
    }

    private static void teamsTheFirstWay() {
        Doc.says("(PERSON by PERSON, none being the least, then the others); none.");
        // none being the least: of 0 1, 2 3 and 1 2 alone, which are as much
        mates(Checks.town("person at 0;person at 0;person at 0;person at 0;guess 0 1 3;guess 2 3 3;guess 1 2 1;guess 0 2 9;guess 0 3 9;guess 1 3 9"),
                -1, 2, 1, -1);
        // then the others: with 1 rather than with 2, with 2 rather than with 3
        mates(Checks.town(FOUR_ALIKE), 1, 0, 3, 2);
        mates(Checks.town(FOUR_ALIKE + ";guess 0 1 1"), 2, 3, 0, 1);
        mates(Checks.town(FOUR_ALIKE + ";guess 0 1 1;guess 1 3 1"), 3, 2, 1, 0);
        mates(Checks.town(FOUR_ALIKE + ";person at 0"), -1, 2, 1, 4, 3);
        mates(Checks.town(FOUR_ALIKE + ";person at 0;guess 1 2 1;guess 1 3 1;guess 1 4 1"), 1, 0, -1, 4, 3);
        TwinRopes x = Checks.town(EIGHT);
        for (int person = 0; person < 8; person++) {
            for (int other = 0; other < person; other++) {
                x.guess(person, other, person + other == 7 ? 0 : 3);
            }
        }
        mates(x, 7, 6, 5, 4, 3, 2, 1, 0);
        Checks.due("20", x.teams(-1), 20);
        x.guess(7, 0, 5);
        x.guess(6, 0, 5);
        x.guess(5, 0, 5);
        x.guess(4, 0, 5);
        x.guess(3, 0, 5);
        x.guess(2, 0, 5);
        x.guess(1, 0, 5);
        mates(x, -1, 6, 5, 4, 3, 2, 1, -1);
    }

    private static final String FOUR_ALIKE = "person at 0;person at 0;person at 0;person at 0";

    private static void mates(TwinRopes x, int... want) {
        for (int person = 0; person < want.length; person++) {
            Checks.due("teams(" + person + ")", x.teams(person), want[person]);
        }
    }

    private static void fresh() {
        Doc.says("FRESH: pairs neither of whom GUESSES anything of the other one: how many.");
        Doc.promise(27, "FRESH.");
        Checks.due("nobody", new TwinRopes().fresh(), 0);
        Checks.due("one", Checks.town("person at 0").fresh(), 0);
        Checks.due("two", Checks.town("person at 0;person at 0").fresh(), 1);
        TwinRopes x = Checks.town(EIGHT);
        Checks.due("eight", x.fresh(), 28);
        x.guess(6, 7, 1);
        Checks.due("the lesser one guesses 1", x.fresh(), 27);
        x.guess(7, 6, 9);
        Checks.due("both guess", x.fresh(), 27);
        x.guess(7, 0, 1);
        Checks.due("the greater one guesses 1", x.fresh(), 26);
        x.forget(7);
        Checks.due("all is forgotten", x.fresh(), 28);
        for (int person = 0; person < 8; person++) {
            for (int other = 0; other < person; other++) {
                x.guess(person, other, 1);
            }
        }
        Checks.due("none", x.fresh(), 0);
    }

    private static void cheap() {
        Doc.says("CHEAP of X (0 to 99) : pairs whose TONE is 4 now and whose PAYS together are X at most: how many.");
        Doc.promise(36, "CHEAP. IllegalArgumentException: X is none.");
        Checks.due("nobody", new TwinRopes().cheap(0), 0);
        Checks.due("one", Checks.town("person at 0").cheap(99), 0);
        TwinRopes x = Checks.town("person at 0;person at 0;person at 0 pay 1;person at 0 pay 98;person at 0 pay 99");
        Checks.due("0 and 0", x.cheap(0), 1);
        Checks.due("0 and 1", x.cheap(1), 3);
        Checks.due("97", x.cheap(97), 3);
        Checks.due("0 and 98", x.cheap(98), 5);
        Checks.due("0 and 99, 1 and 98", x.cheap(99), 8);
        x.guess(1, 0, 5);
        Checks.due("cracked", x.cheap(0), 0);
        x.guess(3, 2, 9);
        Checks.due("dumb", x.cheap(99), 6);
        badNumber(x, "cheap", 0, 99, x::cheap);
        Checks.due("eight without pay", Checks.town(EIGHT).cheap(0), 28);
    }

    private static void cheapest() {
        Doc.says("CHEAPEST: the two of TONE 4 now of the least PAYS together: 8 times the lesser one and the other one (of several the least; "
                + "none).");
        Doc.promise(37, "CHEAPEST; NONE.");
        Checks.due("nobody", new TwinRopes().cheapest(), -1);
        Checks.due("one", Checks.town("person at 0").cheapest(), -1);
        Checks.due("two", Checks.town("person at 0 pay 99;person at 0 pay 99").cheapest(), 1);
        Checks.due("two, cracked", Checks.town("person at 0;person at 0;guess 1 0 5").cheapest(), -1);
        Checks.due("two, dumb", Checks.town("person at 0;person at 0;guess 0 1 9").cheapest(), -1);
        Checks.due("eight alike", Checks.town(EIGHT).cheapest(), 1);
        TwinRopes x = Checks.town("person at 0 pay 8;person at 0 pay 7;person at 0 pay 6;person at 0 pay 5;person at 0 pay 4;person at 0 pay 3;"
                + "person at 0 pay 2;person at 0 pay 1");
        Checks.due("the last two", x.cheapest(), 8 * 6 + 7);
        x.guess(7, 6, 5);
        Checks.due("1 and 3", x.cheapest(), 8 * 5 + 7);
        x.guess(5, 7, 5);
        Checks.due("1 and 4, as 2 and 3", x.cheapest(), 8 * 4 + 7);
        x.guess(4, 7, 9);
        Checks.due("2 and 3", x.cheapest(), 8 * 5 + 6);
    }
}

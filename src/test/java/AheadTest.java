/** HOURS that do not stay: AHEAD, CHIMES, SECRET, TRIAL and SPAN. */
public final class AheadTest extends PromiseCase {
    /** They ring in HOUR 3 alone, and meet at the end of each DAY. */
    private static final String TWO = "person at 0 roams 100;person at 0 roams 100;rope 0 3 0;rope 1 3 1";

    public static void main(String[] args) {
        ahead();
        aheadAsTimeGoesOn();
        chimes();
        secret();
        secretAtTheBounds();
        trial();
        trialDraws();
        span();
        spanOfSixSeeds();
        spanOfEachSeed();
        nothingStays();
        Checks.finish("AheadTest");
    }

    private static void ahead() {
        Doc.says("AHEAD by N HOURS (0 to 100): as so many HOURS without meetings (no DRAWS).");
        Doc.promise(47, "AHEAD by N HOURS: GUESS of the first one of the other one. IllegalArgumentException: both are one, or N is none.");
        TwinRopes x = Checks.town(TWO);
        for (int n = 0; n <= 100; n++) {
            // HOUR 3, 15, .. 99 passed
            Checks.due("ahead by " + n, x.ahead(0, 1, n), (n + 8) / 12);
        }
        x.guess(1, 0, 5);
        Checks.due("the other one's", x.ahead(1, 0, 4) * 10 + x.ahead(0, 1, 4), 61);
        Checks.due("9 at most", x.ahead(1, 0, 100), 9);
        badTwo(x, "ahead", (person, other) -> x.ahead(person, other, 0));
        badTwo(x, "ahead by none", (person, other) -> x.ahead(person, other, -1));
        badNumber(x, "ahead", 0, 100, n -> x.ahead(0, 1, n));
    }

    private static void aheadAsTimeGoesOn() {
        TwinRopes x = Checks.town("person at 0;person at 0", ALL_HOURS_FIRST, ALL_HOURS_SECOND);
        Checks.tellTown(x, "hour 10;day 5");
        Checks.tellLaw(x, "guess 1 if hour < 1;guess 3 if day > 6;hush 1 if rung > 2 and day < 7");
        // HOURS 10, 11, 0, then hushed till day 7
        int[] want = {0, 0, 0, 1, 0, 0, 0, 0, 0, 0, 0, 0, 0, 0, 0, 4, 7};
        for (int n = 0; n < want.length; n++) {
            Checks.due("ahead by " + n, x.ahead(1, 0, n), want[n]);
        }
        TwinRopes y = Checks.town("person at 0;person at 0;person at 0;rope 0 0 0;rope 1 0 1;rope 0 1 1;rope 1 1 2;rope 0 2 2");
        Checks.due("by the plan: 0 of 1", y.ahead(0, 1, 3), 1);
        Checks.due("2 of 1", y.ahead(2, 1, 3), 1);
        Checks.due("2 of 0", y.ahead(2, 0, 3), 0);
    }

    private static void chimes() {
        Doc.says("CHIMES of N HOURS (0 to 100) AHEAD: in how many it RINGS.");
        Doc.promise(23, "CHIMES. IllegalArgumentException: N is none.");
        TwinRopes x = Checks.town(TWO);
        for (int n = 0; n <= 100; n++) {
            Checks.due("chimes(" + n + ")", x.chimes(n), Math.min(5, (n + 8) / 12));
        }
        badNumber(x, "chimes", 0, 100, x::chimes);
        Checks.tellLaw(x, "tell 9");
        Checks.due("without meetings", x.chimes(100), 9);
        TwinRopes y = Checks.town("person at 0;person at 0", ALL_HOURS_FIRST, ALL_HOURS_SECOND);
        Checks.tellLaw(y, "");
        Checks.due("all", y.chimes(100), 100);
        Checks.tellLaw(y, "guess 5 if rang;hush 5 if not rang");
        Checks.due("each other one", y.chimes(99) * 100 + y.chimes(100), 5050);
        Checks.due("nobody", new TwinRopes().chimes(100), 0);
    }

    private static void secret() {
        Doc.says("SECRET of two: the first N (0 to 100) HOURS AHEAD by which one of both KNOWS of the other one; none.");
        Doc.promise(43, "SECRET; NONE. IllegalArgumentException: both are one.");
        TwinRopes x = Checks.town(TWO);
        for (int guess = 0; guess <= 9; guess++) {
            x.guess(0, 1, guess);
            x.guess(1, 0, 0);
            int hours = guess == 9 ? 0 : 4 + 12 * (8 - guess);
            Checks.due("secret from " + guess, x.secret(0, 1), hours);
            Checks.due("secret from " + guess + ", the other way", x.secret(1, 0), hours);
            x.guess(0, 1, 0);
            x.guess(1, 0, guess);
            Checks.due("secret from the other one's " + guess, x.secret(0, 1), hours);
        }
        badTwo(x, "secret", x::secret);
        TwinRopes y = Checks.town("person at 0;person at 0;person at 0;rope 0 0 0;rope 1 0 1;guess 1 2 9");
        Checks.due("of two who never pull together", y.secret(0, 2), -1);
        Checks.due("of two of whom one knows now", y.secret(2, 1), 0);
        Checks.due("of two of the plan", y.secret(0, 1), 97);
        Checks.tellLaw(y, "");
        Checks.due("never", y.secret(0, 1), -1);
    }

    private static void secretAtTheBounds() {
        TwinRopes x = Checks.town(TWO);
        Checks.due("100", x.secret(0, 1), 100);
        x.hours(3);
        Checks.due("97", x.secret(0, 1), 97);
        TwinRopes y = Checks.town(TWO);
        y.off(0, 3);
        y.off(1, 3);
        y.rope(0, 4, 0);
        y.rope(1, 4, 1);
        Checks.due("101 is too late", y.secret(0, 1), -1);
        y.hours(1);
        Checks.due("100 an hour later", y.secret(0, 1), 100);
        y.hours(4);
        Checks.due("96", y.secret(1, 0), 96);
        TwinRopes z = Checks.town("person at 0;person at 0", ALL_HOURS_FIRST, ALL_HOURS_SECOND);
        Checks.tellLaw(z, "guess 9 if day > 7 and hour > 2;hush 9 if day > 7 and hour > 3");
        Checks.due("100, known for an HOUR alone", z.secret(0, 1), 100);
        Checks.tellLaw(z, "guess 9 if rung < 1;hush 9 if rung > 0");
        Checks.due("the first", z.secret(0, 1), 1);
    }

    private static void trial() {
        Doc.says("TRIAL of N HOURS (0 to 100) from now (draws, too; nothing stays): how many pairs there are then of whom one KNOWS of the "
                + "other one; in how many of these HOURS it RANG.");
        Doc.promise(48, "TRIAL: how many pairs (rang false), or in how many HOURS it RANG. IllegalArgumentException: N is none.");
        TwinRopes x = Checks.town(TWO + ";person at 1;person at 1;guess 2 3 9");
        // each HOUR 3 tells 1 more, each end of a day 2 more: 1, 3, 4, 6, 7, 9
        for (int n = 0; n <= 100; n++) {
            Checks.due("trial(" + n + ", false)", x.trial(n, false), n < 36 ? 1 : 2);
            Checks.due("trial(" + n + ", true)", x.trial(n, true), n < 4 ? 0 : n < 16 ? 1 : 2);
        }
        badNumber(x, "trial", 0, 100, n -> x.trial(n, false));
        badNumber(x, "trial", 0, 100, n -> x.trial(n, true));
        TwinRopes y = Checks.town(EIGHT_NEAR.replace("at 3", "at 3 roams 100"));
        Checks.tellLaw(y, "tell 9");
        Checks.due("all pairs", y.trial(12, false), 28);
        Checks.due("none ahead of the end", y.trial(11, false), 0);
        Checks.due("nobody", new TwinRopes().trial(100, false), 0);
        TwinRopes z = Checks.town("person at 0;person at 0", ALL_HOURS_FIRST, ALL_HOURS_SECOND);
        Checks.tellLaw(z, "");
        Checks.due("all hours", z.trial(100, true), 100);
    }

    private static void trialDraws() {
        TwinRopes x = Checks.town("person at 0 roams 40;person at 0 roams 40");
        Checks.tellLaw(x, "tell 9");
        // draws from SEED 1: 38, 58, then 13, 15
        Checks.due("not in the first day", x.trial(23, false), 0);
        Checks.due("in the second one", x.trial(24, false), 1);
        Checks.due("SEED stays", x.seed(2), 1);
        // from SEED 2: 8, 17
        Checks.due("from another SEED in the first one", x.trial(12, false), 1);
        Checks.due("SEED stays", x.seed(1), 2);
        x.hours(12);
        Checks.due("as HOURS do", x.count(6), 0);
        Checks.due("from the SEED of then", x.trial(12, false), 1);
        x.hours(12);
        Checks.due("as HOURS do", x.count(6), 1);
    }

    private static void span() {
        Doc.says("SPAN: the least and the greatest number of such pairs so from SEED 1, 2, .. 6.");
        Doc.promise(49, "SPAN: the least (most false), or the greatest. IllegalArgumentException: N is none.");
        TwinRopes x = Checks.town("person at 0 roams 40;person at 0 roams 40;person at 1;person at 1;guess 3 2 9");
        Checks.tellLaw(x, "tell 9");
        Checks.due("none is out yet", x.span(0, false) * 10 + x.span(0, true), 11);
        Checks.due("none is out yet", x.span(11, false) * 10 + x.span(11, true), 11);
        // draws: 38 58, 8 17, 47 7, 17 66, 55 57, 26 15
        Checks.due("by SEED 2 and 6", x.span(12, false) * 10 + x.span(12, true), 12);
        Checks.due("a hundred hours", x.span(100, true), 2);
        badNumber(x, "span", 0, 100, n -> x.span(n, false));
        badNumber(x, "span", 0, 100, n -> x.span(n, true));
        Checks.due("nobody", new TwinRopes().span(100, false) * 10 + new TwinRopes().span(100, true), 0);
        TwinRopes y = Checks.town(EIGHT_NEAR.replace("at 3", "at 3 roams 100"));
        Checks.tellLaw(y, "tell 9");
        Checks.due("all by each SEED", y.span(100, false) * 100 + y.span(100, true), 2828);
    }

    private static void spanOfSixSeeds() {
        // draws: 38 58, 8 17, 47 7, 17 66, 55 57, 26 15; of SEED 0 0 68, of SEED 7 96 73
        int[][] draws = {{38, 58}, {8, 17}, {47, 7}, {17, 66}, {55, 57}, {26, 15}};
        for (int first = 0; first <= 100; first += first > 60 ? 39 : 1) {
            for (int second : new int[] {0, 7, 8, 15, 16, 17, 18, 57, 58, 59, 66, 67, 100}) {
                TwinRopes x = Checks.town("person at 0 roams " + first + ";person at 0 roams " + second + ";guess 0 1 0");
                Checks.tellLaw(x, "tell 9");
                x.seed(first);
                int least = 1;
                int most = 0;
                for (int[] draw : draws) {
                    int meet = draw[0] < first && draw[1] < second ? 1 : 0;
                    least = Math.min(least, meet);
                    most = Math.max(most, meet);
                }
                Checks.due("span of " + first + " and " + second, x.span(12, false) * 10 + x.span(12, true), least * 10 + most);
                Checks.due("SEED stays", x.seed(1), first);
            }
        }
    }

    private static void spanOfEachSeed() {
        // by the draws of one SEED alone these two are OUT: of 8 PEOPLE the first and the second number, and what they roam
        spanOf(1, 0, 39, 2, 14);
        spanOf(1, 0, 9, 1, 18);
        spanOf(1, 0, 48, 1, 8);
        spanOf(1, 0, 18, 3, 12);
        spanOf(1, 0, 56, 6, 5);
        spanOf(1, 0, 27, 1, 16);
        // by SEED 0 and 7 alone, of which SPAN is not
        spanOf(0, 0, 1, 1, 69);
        spanOf(0, 0, 65, 1, 7);
    }

    private static void spanOf(int want, int first, int roams, int second, int others) {
        StringBuilder text = new StringBuilder();
        for (int person = 0; person < 8; person++) {
            text.append(person > 0 ? ";" : "").append("person at 1 roams ").append(person == first ? roams : person == second ? others : 0);
        }
        TwinRopes x = Checks.town(text.toString());
        Checks.tellLaw(x, "tell 9");
        Checks.due("most of " + roams + " and " + others, x.span(12, true), want);
        Checks.due("least of " + roams + " and " + others, x.span(12, false), 0);
    }

    private static void nothingStays() {
        TwinRopes x = Checks.town(TWO + ";guess 0 1 3");
        x.move(1, 0);
        String before = Checks.seen(x);
        for (int n : new int[] {0, 1, 4, 11, 12, 99, 100}) {
            x.ahead(0, 1, n);
            x.chimes(n);
            x.trial(n, false);
            x.trial(n, true);
            x.span(n, false);
            x.span(n, true);
            x.secret(0, 1);
            Checks.due("nothing stays of " + n, Checks.seen(x), before);
        }
        Checks.due("the act ahead of it is remembered", x.undo(), true);
        Checks.due("no other one", x.undo(), false);
    }
}

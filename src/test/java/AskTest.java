import java.util.NoSuchElementException;

/** Promises 23 to 51: all that is asked for, which changes nothing. */
public final class AskTest extends PromiseCase {
    private static final String FOUR = "person at 1 roams 100 pay 5;person at 1 roams 50 pay 9;person at 2 pay 2 sworn;"
            + "person at 1 roams 100 pay 5;guess 0 1 4;guess 1 2 9;guess 2 3 5;rope 0 0 0;rope 1 0 1;rope 0 1 2;rope 1 2 3;"
            + "rope 0 3 1;rope 1 3 2";
    private static final String THREE = "person at 1;person at 2;person at 3";

    public static void main(String[] args) {
        promise23();
        promise24();
        promise25();
        promise26();
        promise27();
        promise28And29();
        promise30();
        promise31();
        promise32And33();
        promise34();
        promise34Wrong();
        promise35();
        promise36And37();
        promise38And39();
        promise40To42();
        promise43();
        promise44();
        promise45();
        promise46();
        promise47();
        promise48();
        promise49();
        promise50And51();
        Checks.finish("AskTest");
    }

    /** That a town is as it was, whatever was asked of it. */
    private static void unchanged(TwinRopes x, String before) {
        Checks.due("asking changes nothing", Checks.seen(x), before);
    }

    private static void promise23() {
        TwinRopes x = Checks.town("person at 4 roams 100;person at 4 roams 100;person at 4;rope 0 0 0;rope 1 0 1;rope 0 5 1;rope 1 5 2");
        String before = Checks.seen(x);
        Checks.due("chimes(0)", x.chimes(0), 0);
        Checks.due("chimes(1)", x.chimes(1), 1);
        Checks.due("chimes(5)", x.chimes(5), 1);
        Checks.due("chimes(6)", x.chimes(6), 2);
        // each two ring in 5 DAYS till one GUESSES 5, as no meeting lets out anything
        Checks.due("chimes(100)", x.chimes(100), 10);
        Checks.due("chimes(48)", x.chimes(48), 8);
        badNumber(x, "chimes", 0, 100, x::chimes);
        unchanged(x, before);
    }

    private static void promise24() {
        TwinRopes x = Checks.town(FOUR);
        String before = Checks.seen(x);
        Checks.due("lasts(0, 1)", x.lasts(0, 1), 1);
        Checks.due("lasts(1, 0)", x.lasts(1, 0), 1);
        Checks.due("lasts(0, 2)", x.lasts(0, 2), 5);
        Checks.due("cracked", x.lasts(2, 3), 0);
        Checks.due("known", x.lasts(1, 2), 0);
        badTwo(x, "lasts", x::lasts);
        unchanged(x, before);
        Checks.tellLaw(x, "guess 0");
        Checks.due("for ever", x.lasts(0, 1), 60);
        Checks.tellTown(x, "hour 10;day 3");
        Checks.tellLaw(x, "guess 9 if day > 3 and hour > 1");
        Checks.due("till the next day's hour 2", x.lasts(0, 3), 5);
        Checks.tellLaw(x, "guess 5 if rung > 2");
        Checks.due("by what is rung", x.lasts(0, 3), 4);
        Checks.tellLaw(x, "guess 1 if one < 3;hush 1 if rung > 0 and other > 2;guess 2 if back > 0");
        // 0 of 3: 1, 1, 1, 1; 3 of 0: 0, 2, 4, 6
        Checks.due("by both", x.lasts(0, 3), 4);
        Checks.due("by both, the other way", x.lasts(3, 0), 4);
        Checks.tellTown(x, "guess 3 0 1");
        Checks.due("by both: 4, 5", x.lasts(0, 3), 2);
    }

    private static void promise25() {
        TwinRopes x = Checks.town(FOUR);
        Checks.due("the least of several", x.longest(), 2);
        x.guess(0, 2, 1);
        Checks.due("0 and 3", x.longest(), 3);
        x.guess(3, 0, 2);
        Checks.due("1 and 3", x.longest(), 11);
        x.guess(0, 1, 9);
        x.guess(0, 2, 9);
        x.guess(0, 3, 9);
        x.guess(3, 1, 9);
        Checks.due("none rings: the least", x.longest(), 1);
        Checks.due("one alone", Checks.town("person at 1").longest(), -1);
        Checks.due("two", Checks.town("person at 1;person at 2").longest(), 1);
    }

    private static void promise26() {
        TwinRopes x = Checks.town(FOUR);
        String before = Checks.seen(x);
        int[] want = {2, 3, 0, 1};
        Checks.due("teams(-1)", x.teams(-1), 10);
        for (int person = 0; person < 4; person++) {
            Checks.due("teams(" + person + ")", x.teams(person), want[person]);
        }
        for (int person : new int[] {-2, 4, 8, Integer.MIN_VALUE, Integer.MAX_VALUE}) {
            Checks.refusedWhole(x, "teams of " + person, IndexOutOfBoundsException.class, () -> x.teams(person));
        }
        unchanged(x, before);
        TwinRopes y = Checks.town(THREE);
        Checks.due("three: 0 is alone", y.teams(0), -1);
        Checks.due("1 is with 2", y.teams(1), 2);
        Checks.due("how much", y.teams(-1), 5);
        y.guess(1, 2, 1);
        Checks.due("then 0 is with 1, not with 2", y.teams(0), 1);
        Checks.due("2 is alone", y.teams(2), -1);
        y.guess(0, 1, 5);
        y.guess(0, 2, 5);
        y.guess(1, 2, 5);
        Checks.due("none rings: nobody is put together", y.teams(0) + y.teams(1) + y.teams(2), -3);
        Checks.due("nothing", y.teams(-1), 0);
        // the best pair is not in the best way: 4 and 4 are more than 5 alone
        TwinRopes z = Checks.town(THREE + ";person at 4;guess 0 1 1;guess 2 3 1;guess 0 2 9;guess 1 3 9;guess 0 3 9");
        Checks.due("how much", z.teams(-1), 8);
        Checks.due("0 with 1, 2 with 3", 1000 * z.teams(0) + 100 * z.teams(1) + 10 * z.teams(2) + z.teams(3), 1032);
        TwinRopes w = Checks.town(THREE + ";person at 4;person at 5;person at 6;person at 7;person at 0");
        Checks.due("eight", w.teams(-1), 20);
        Checks.due("eight, the first way", "" + w.teams(0) + w.teams(1) + w.teams(2) + w.teams(3) + w.teams(4) + w.teams(5)
                + w.teams(6) + w.teams(7), "10325476");
    }

    private static void promise27() {
        TwinRopes x = Checks.town(FOUR);
        Checks.due("fresh", x.fresh(), 3);
        x.guess(3, 0, 1);
        Checks.due("one way is enough", x.fresh(), 2);
        x.guess(0, 3, 1);
        Checks.due("both ways are one pair", x.fresh(), 2);
    }

    private static void promise28And29() {
        TwinRopes x = Checks.town(FOUR);
        Checks.due("crowd", x.crowd(), 0b1011);
        Checks.due("go", x.go(), 0b0010);
        x.guess(3, 1, 9);
        Checks.due("crowd without 1", x.crowd(), 0b1101);
        Checks.due("1 goes", x.go(), 0b0010);
        x.guess(0, 3, 9);
        Checks.due("crowd of two, the least", x.crowd(), 0b0011);
        Checks.due("two go, the least", x.go(), 0b0011);
        x.forget(3);
        x.forget(1);
        Checks.due("all", x.crowd(), 0b1111);
        Checks.due("nobody goes", x.go(), 0);
        x.guess(1, 0, 8);
        Checks.due("8 is not to know", x.crowd(), 0b1111);
        for (int a = 0; a < 4; a++) {
            for (int b = a + 1; b < 4; b++) {
                x.guess(b, a, 9);
            }
        }
        Checks.due("one alone", x.crowd(), 0b0001);
        Checks.due("all but one go", x.go(), 0b0111);
    }

    private static void promise30() {
        TwinRopes x = Checks.town(FOUR);
        Checks.due("cut", x.cut(false), 0b0001);
        Checks.due("pairs across", x.cut(true), 3);
        x.forget(2);
        Checks.due("two and two", x.cut(false), 0b0011);
        Checks.due("pairs across", x.cut(true), 4);
        x.guess(1, 2, 5);
        Checks.due("1 with 2", x.cut(false), 0b0110);
        Checks.due("pairs across", x.cut(true), 4);
        for (int a = 0; a < 4; a++) {
            for (int b = a + 1; b < 4; b++) {
                x.guess(b, a, 5);
            }
        }
        Checks.due("none rings: nobody is in loft 1", x.cut(false), 0);
        Checks.due("no pairs", x.cut(true), 0);
    }

    private static void promise31() {
        TwinRopes x = Checks.town(FOUR);
        Checks.due("heads", x.heads(), 0b0111);
        x.guess(1, 0, 5);
        Checks.due("1 heads 0 and 2", x.heads(), 0b0110);
        x.guess(1, 3, 9);
        Checks.due("1 heads all", x.heads(), 0b0010);
        x.guess(1, 3, 4);
        Checks.due("4 is below DOUBT", x.heads(), 0b0110);
        Checks.tellTown(x, "doubt 4");
        Checks.due("till DOUBT is 4", x.heads(), 0b0010);
        x.guess(0, 1, 9);
        x.guess(0, 2, 9);
        x.guess(0, 3, 9);
        Checks.due("the least of several", x.heads(), 0b0001);
        Checks.due("one alone", Checks.town("person at 1").heads(), 1);
    }

    private static void promise32And33() {
        TwinRopes x = Checks.town(FOUR + ";guess 3 1 1");
        String before = Checks.seen(x);
        int[][] want = {
            {0, 0b0010, 0b0110, 0b1110, 0b1110, 0b1110, 0b1110, 0b1110, 0b1110},
            {0, 0b0100, 0b1100, 0b1110, 0b1110, 0b1110, 0b1110, 0b1110, 0b1110},
            {0, 0b1000, 0b1010, 0b1110, 0b1110, 0b1110, 0b1110, 0b1110, 0b1110}};
        for (int person = 0; person < 3; person++) {
            for (int k = 0; k <= 8; k++) {
                Checks.due("depth(" + person + ", " + k + ")", x.depth(person, k), want[person][k]);
            }
        }
        Checks.due("nobody comes back to 0", x.circle(0), -1);
        Checks.due("circle of 1", x.circle(1), 3);
        Checks.due("circle of 3", x.circle(3), 3);
        badPerson(x, "depth", person -> x.depth(person, 1));
        badPerson(x, "depth of none", person -> x.depth(person, 9));
        badNumber(x, "depth", 0, 8, k -> x.depth(0, k));
        badPerson(x, "circle", x::circle);
        unchanged(x, before);
        x.guess(1, 0, 1);
        Checks.due("circle of two", x.circle(0), 2);
        Checks.due("itself, as one comes back to it", x.depth(0, 2), 0b0111);
        TwinRopes y = Checks.town(THREE + ";person at 4;person at 5;person at 6;person at 7;person at 0");
        for (int person = 0; person < 8; person++) {
            y.guess(person, (person + 1) % 8, 1);
        }
        Checks.due("a circle of all", y.circle(4), 8);
        Checks.due("7 steps", y.depth(4, 7), 255 - 16);
        Checks.due("8 steps", y.depth(4, 8), 255);
    }

    /** 0 and 1 ring in 1 HOUR, 0 and 2 in 3, 1 and 2 in 5; then never, as none forgets. */
    private static TwinRopes heard() {
        return Checks.town(THREE + ";guess 0 1 4;guess 2 0 2;rope 0 0 0");
    }

    private static int pulled(TwinRopes x, boolean who, int... told) {
        tell(x, told);
        return x.pulled(who);
    }

    private static int listen(TwinRopes x, int... told) {
        tell(x, told);
        return x.listen();
    }

    private static void tell(TwinRopes x, int... told) {
        byte[] bytes = new byte[told.length];
        for (int i = 0; i < told.length; i++) {
            bytes[i] = (byte) told[i];
        }
        Checks.tape(x, bytes);
    }

    private static void promise34() {
        TwinRopes x = heard();
        String before = Checks.seen(x);
        Checks.due("none told", pulled(x, false), 3);
        Checks.due("none told, who", pulled(x, true), 0);
        Checks.due("all ring in 0", pulled(x, false, 0, 1), 3);
        Checks.due("all ring in 0: nobody is in all", pulled(x, true, 0, 1), 0);
        Checks.due("rings in 1", pulled(x, false, 1, 1), 2);
        Checks.due("rings in 1, who", pulled(x, true, 1, 1), 0b100);
        Checks.due("rings in 4", pulled(x, true, 4, 1), 0b110);
        Checks.due("rings in 5", pulled(x, false, 5, 1), 0);
        Checks.due("rings in 5, who", pulled(x, true, 5, 1), 0);
        Checks.due("not in 3", pulled(x, true, 3, 0), 0b001);
        Checks.due("in 2, not in 3", pulled(x, true, 3, 0, 2, 1), 0b101);
        Checks.due("told twice", pulled(x, false, 2, 1, 2, 1, 30, 0), 2);
        Checks.due("told both ways", pulled(x, false, 2, 1, 2, 0), 0);
        Checks.due("told both ways, who", pulled(x, true, 2, 1, 2, 0), 0);
        Checks.due("forty bytes", pulled(x, true, 1, 0, 1, 0, 1, 0, 1, 0, 1, 0, 1, 0, 1, 0, 1, 0, 1, 0, 1, 0, 1, 0, 1, 0, 1, 0,
                1, 0, 1, 0, 1, 0, 1, 0, 1, 0, 1, 0, 0, 1), 0b011);
        Checks.due("the tape is used up", x.end(1), false);
        unchanged(x, before);
        x.guess(0, 2, 9);
        Checks.due("none told, one of them dumb", pulled(x, false), 3);
        Checks.due("rings in 0, one of them dumb", pulled(x, true, 0, 1), 0b010);
        Checks.due("not in 0", pulled(x, true, 0, 0), 0b101);
        x.guess(0, 2, 0);
        // they pull on, though it rang not: what is hushed then lets it ring again
        Checks.tellLaw(x, "guess 3 if rang;hush 4 if not rang");
        // 0 and 1: 4 0, 7 3, 3 0, 6 3, 2 0; 0 and 2: 0 2, 3 5, 0 1, 3 4, 6 7; 1 and 2: 0 0, 3 3, 6 6, 2 2, 5 5
        Checks.due("rings again", pulled(x, true, 1, 0, 2, 1, 3, 0, 4, 1), 0b011);
        Checks.due("rings again, other two", pulled(x, true, 1, 0, 2, 1, 3, 1), 0b101);
        Checks.due("rings again, last two", pulled(x, true, 1, 1, 2, 0, 3, 1), 0b110);
        Checks.tellTown(x, "hour 11;day 4");
        Checks.tellLaw(x, "guess 9 if day > 4 and hour > 0 and one + other < 2");
        Checks.due("hour and day go on", pulled(x, true, 2, 1, 3, 0), 0b011);
    }

    private static void promise34Wrong() {
        TwinRopes x = heard();
        x.swear(0, true);
        int[][] wrong = {{0}, {31, 1}, {255, 1}, {0, 2}, {0, 255}, {0, 1, 0}, {0, 1, 31, 0}, {0, 1, 0, 2}, new int[42]};
        for (int[] told : wrong) {
            Checks.refusedWhole(x, "pulled", IllegalArgumentException.class, () -> pulled(x, true, told));
            Checks.due("the tape is used up", x.end(1), false);
            Checks.refusedWhole(x, "listen", IllegalArgumentException.class, () -> listen(x, told));
            Checks.due("the tape is used up", x.end(1), false);
        }
        Checks.due("42 bytes less two", pulled(x, false, new int[40]), 0);
        Checks.due("hour 30 is one", pulled(x, false, 30, 0), 3);
    }

    private static void promise35() {
        TwinRopes x = heard();
        String before = Checks.seen(x);
        // in HOUR 0 three ring, in 1 and 2 two, in 3 one
        Checks.due("the first that parts them by 2", listen(x), 1);
        Checks.due("of those that ring in 1", listen(x, 1, 1), 3);
        Checks.due("of those that do not ring in 3", listen(x, 3, 0), 1);
        Checks.due("one fits", listen(x, 4, 1), -1);
        Checks.due("none fits", listen(x, 5, 1), -1);
        Checks.due("the tape is used up", x.end(1), false);
        unchanged(x, before);
        Checks.tellLaw(x, "guess 0");
        Checks.due("nothing parts them: the least", listen(x, 30, 1), 0);
        Checks.due("two people are one pair", listen(Checks.town("person at 1;person at 2")), -1);
        Checks.tellTown(x, "hour 0;day 0");
        Checks.tellLaw(x, "guess 9 if day > 1 and hour > 4 and one + other > 2");
        Checks.due("hour 30", listen(x), 30);
    }

    private static void promise36And37() {
        TwinRopes x = Checks.town(FOUR);
        // 0 1: 14, 0 2: 7, 0 3: 10, 1 3: 14; 1 2 and 2 3 do not ring
        int[] counts = {0, 0, 0, 0, 0, 0, 0, 1, 1, 1, 2, 2, 2, 2, 4, 4};
        for (int most = 0; most < counts.length; most++) {
            Checks.due("cheap(" + most + ")", x.cheap(most), counts[most]);
        }
        Checks.due("cheap(99)", x.cheap(99), 4);
        badNumber(x, "cheap", 0, 99, x::cheap);
        Checks.due("cheapest", x.cheapest(), 2);
        x.guess(0, 2, 5);
        Checks.due("then 0 and 3", x.cheapest(), 3);
        x.guess(3, 0, 5);
        Checks.due("then 0 and 1, as 1 and 3", x.cheapest(), 1);
        x.guess(1, 0, 9);
        Checks.due("then 1 and 3", x.cheapest(), 11);
        x.guess(1, 3, 9);
        Checks.due("none", x.cheapest(), -1);
        Checks.due("cheap of none", x.cheap(99), 0);
        TwinRopes y = Checks.town("person at 1 pay 99;person at 1 pay 99;person at 1");
        Checks.due("198 is above 99", y.cheap(99), 2);
        Checks.due("0 of 1 and 2", y.cheapest(), 2);
    }

    private static void promise38And39() {
        TwinRopes x = Checks.town(FOUR);
        String before = Checks.seen(x);
        Checks.due("spoilt", x.spoilt(), 0b1110);
        int[] mends = {-1, 1, 0, 0, -1, -1, -1, -1, -1, -1, -1, -1};
        for (int hour = 0; hour < 12; hour++) {
            Checks.due("mend(" + hour + ")", x.mend(hour), mends[hour]);
        }
        badHour(x, "mend", x::mend);
        unchanged(x, before);
        x.guess(1, 0, 5);
        Checks.due("cracked is spoilt", x.spoilt(), 0b1111);
        Checks.due("2 in loft 1, for 2 and 1 know", x.mend(0), 2 * 2 + 1);
        x.guess(2, 0, 9);
        Checks.due("3 in loft 0", x.mend(0), 2 * 3);
        x.guess(3, 1, 9);
        Checks.due("3 in loft 1", x.mend(0), 2 * 3 + 1);
        x.guess(0, 3, 9);
        Checks.due("nobody", x.mend(0), -1);
        Checks.due("yet spoilt", x.spoilt(), 0b1111);
        Checks.due("one alone, nobody else", Checks.town("person at 1;rope 0 11 0").mend(11), -1);
        Checks.due("one alone", Checks.town("person at 1;rope 0 11 0").spoilt(), 1 << 11);
    }

    private static void promise40To42() {
        TwinRopes x = Checks.town(FOUR);
        Checks.due("bill", x.bill(), 5 + 18 + 4 + 5);
        x.off(0, 3);
        Checks.due("bill less 9", x.bill(), 23);
        Checks.due("most guessed", x.most(), 2);
        Checks.due("nosy", x.nosy(), 1);
        x.guess(3, 1, 5);
        x.guess(0, 3, 4);
        Checks.due("the least of several guessed", x.most(), 1);
        Checks.due("1 is nosy yet", x.nosy(), 1);
        x.guess(0, 3, 5);
        Checks.due("the least of several nosy", x.nosy(), 0);
        x.guess(2, 3, 6);
        Checks.due("11 of 3", x.most(), 3);
        x.guess(3, 0, 9);
        x.guess(2, 0, 9);
        Checks.due("18 of 0", x.most(), 0);
        for (int person = 0; person < 4; person++) {
            x.forget(person);
        }
        Checks.due("nobody guessed", x.most(), -1);
        Checks.due("nobody nosy", x.nosy(), -1);
        x.guess(3, 2, 1);
        Checks.due("guessed", x.most(), 2);
        Checks.due("nosy", x.nosy(), 3);
    }

    private static void promise43() {
        TwinRopes x = Checks.town(FOUR);
        String before = Checks.seen(x);
        Checks.due("known now", x.secret(1, 2), 0);
        Checks.due("known now, the other way", x.secret(2, 1), 0);
        Checks.due("4 and 5 days", x.secret(0, 1), 49);
        Checks.due("4 and 5 days, the other way", x.secret(1, 0), 49);
        Checks.due("never", x.secret(0, 3), -1);
        badTwo(x, "secret", x::secret);
        unchanged(x, before);
        TwinRopes y = Checks.town("person at 1 roams 100;person at 1 roams 100;rope 0 3 0;rope 1 3 1");
        Checks.due("4 hours, then 8 days", y.secret(0, 1), 100);
        Checks.tellTown(y, "hour 11");
        Checks.due("one hour later", y.secret(0, 1), -1);
        Checks.tellTown(y, "hour 4;guess 0 1 1");
        Checks.due("12 hours, then 7 days", y.secret(0, 1), 96);
    }

    private static void promise44() {
        TwinRopes x = Checks.town("person at 1 roams 100;person at 1 roams 50;person at 2 roams 100;person at 1 roams 33;"
                + "person at 1 roams 7;person at 1");
        Checks.due("half", x.odds(0, 1, 1, 1), 5000);
        Checks.due("in two days", x.odds(0, 1, 2, 1), 7500);
        Checks.due("in three days", x.odds(0, 1, 3, 1), 8750);
        Checks.due("twice in three days", x.odds(1, 0, 3, 2), 5000);
        Checks.due("thrice in three days", x.odds(0, 1, 3, 3), 1250);
        Checks.due("more than days", x.odds(0, 1, 2, 3), 0);
        Checks.due("none at least", x.odds(0, 1, 3, 0), 10000);
        Checks.due("none at least in none", x.odds(0, 1, 0, 0), 10000);
        Checks.due("one in none", x.odds(0, 1, 0, 1), 0);
        Checks.due("not near", x.odds(0, 2, 3, 1), 0);
        Checks.due("not near, none at least", x.odds(0, 2, 3, 0), 10000);
        // 33 times 7 is 231 in 10000: twice in two days is 5.3361, once 456.6639
        Checks.due("rounded down", x.odds(3, 4, 2, 2), 5);
        Checks.due("rounded down", x.odds(3, 4, 2, 1), 456);
        Checks.due("thrice: 0.12", x.odds(3, 4, 3, 3), 0);
        Checks.due("never out", x.odds(0, 5, 3, 1), 0);
        badTwo(x, "odds", (person, other) -> x.odds(person, other, 1, 1));
        badTwo(x, "odds of none", (person, other) -> x.odds(person, other, 4, -1));
        badNumber(x, "odds of days", 0, 3, n -> x.odds(0, 1, n, 1));
        badNumber(x, "odds of times", 0, 3, k -> x.odds(0, 1, 1, k));
    }

    private static void promise45() {
        TwinRopes x = Checks.town(FOUR);
        Checks.due("twins", x.twins(), 1);
        x.move(3, 2);
        Checks.due("of other haunts", x.twins(), 0);
        Checks.due("three alike", Checks.town("person at 1 pay 3;person at 1 pay 3 sworn;person at 1 pay 3").twins(), 3);
        Checks.due("other pay", Checks.town("person at 1 pay 3;person at 1 pay 4").twins(), 0);
        Checks.due("other ways", Checks.town("person at 1 roams 3;person at 1 roams 4").twins(), 0);
    }

    private static void promise46() {
        TwinRopes x = Checks.town(FOUR);
        Checks.due("5 - 8 is less than 0", x.rests(0, 1), 8);
        Checks.due("5 and 5", x.rests(0, 3), 9);
        x.guess(0, 1, 2);
        Checks.due("5 - 4 and 9", x.rests(0, 1), 9);
        x.guess(1, 0, 4);
        Checks.due("1 and 1", x.rests(1, 0), 9);
        x.guess(1, 0, 5);
        Checks.due("9 - 10 is less than 1", x.rests(0, 1), 8);
        Checks.tellTown(x, "doubt 2;person at 1 pay 10;person at 1");
        x.guess(4, 5, 5);
        Checks.due("0 is less than 1", x.rests(4, 5), 8);
        x.guess(4, 5, 4);
        Checks.due("2 is not, nor 0 than 0", x.rests(4, 5), 9);
        Checks.due("the other way", x.rests(5, 4), 9);
        TwinRopes y = Checks.town("person at 1 pay 9;person at 1 pay 10;person at 1;doubt 4");
        y.guess(0, 2, 4);
        Checks.due("9 - 8 is no less than 1", y.rests(0, 2), 9);
        Checks.due("the other way", y.rests(2, 0), 9);
        y.guess(1, 2, 5);
        Checks.due("10 - 10 is less than 1", y.rests(1, 2), 8);
        Checks.tellTown(y, "doubt 5");
        Checks.due("5 is DOUBT", y.rests(2, 1), 8);
        Checks.tellTown(y, "doubt 6");
        Checks.due("10 - 10 is no less than 0", y.rests(1, 2), 9);
        badTwo(x, "rests", x::rests);
    }

    private static void promise47() {
        TwinRopes x = Checks.town(FOUR);
        String before = Checks.seen(x);
        Checks.due("ahead by 0", x.ahead(0, 1, 0), 4);
        Checks.due("ahead by 1", x.ahead(0, 1, 1), 5);
        Checks.due("the other way", x.ahead(1, 0, 1), 1);
        Checks.due("ahead by 13, without a meeting", x.ahead(0, 1, 13), 6);
        Checks.due("ahead by 100", x.ahead(0, 1, 100), 9);
        Checks.due("the other way", x.ahead(1, 0, 100), 9);
        Checks.due("two who never pull together", x.ahead(0, 3, 100), 0);
        badTwo(x, "ahead", (person, other) -> x.ahead(person, other, 1));
        badTwo(x, "ahead of none", (person, other) -> x.ahead(person, other, 101));
        badNumber(x, "ahead", 0, 100, n -> x.ahead(0, 1, n));
        unchanged(x, before);
    }

    private static void promise48() {
        TwinRopes x = Checks.town(FOUR);
        String before = Checks.seen(x);
        Checks.due("trial(0) rings", x.trial(0, true), 0);
        Checks.due("trial(0) pairs", x.trial(0, false), 1);
        Checks.due("trial(1) rings", x.trial(1, true), 1);
        Checks.due("trial(1) pairs", x.trial(1, false), 1);
        badNumber(x, "trial", 0, 100, n -> x.trial(n, true));
        badNumber(x, "trial", 0, 100, n -> x.trial(n, false));
        unchanged(x, before);
        TwinRopes y = Checks.town("person at 4 roams 40;person at 4 roams 40;rope 0 0 0;rope 1 0 1");
        Checks.tellLaw(y, "tell 9");
        // draws from SEED 1: 38, 58, from SEED 2: 8, 17
        Checks.due("no meeting by SEED 1", y.trial(12, false), 0);
        Checks.due("rings in both days", y.trial(13, true), 2);
        y.seed(2);
        Checks.due("a day is not over", y.trial(11, false), 0);
        Checks.due("a meeting by SEED 2", y.trial(12, false), 1);
        Checks.due("dumb then", y.trial(13, true), 1);
        Checks.due("the seed stays", y.seed(2), 2);
        Checks.due("hours do the same", y.hours(12), 1);
        Checks.due("pairs", y.count(6), 1);
    }

    private static void promise49() {
        TwinRopes x = Checks.town("person at 4 roams 40;person at 4 roams 40;person at 4 roams 8");
        Checks.tellLaw(x, "tell 9");
        String before = Checks.seen(x);
        // draws of a day: 38 58 13, 8 17 39, 47 7 65, 17 66 91, 55 57 16, 26 15 42
        Checks.due("least of a day", x.span(12, false), 0);
        Checks.due("most of a day", x.span(12, true), 1);
        Checks.due("no day", x.span(11, true), 0);
        Checks.due("no hour", x.span(0, false), 0);
        badNumber(x, "span", 0, 100, n -> x.span(n, true));
        badNumber(x, "span", 0, 100, n -> x.span(n, false));
        unchanged(x, before);
        x.guess(0, 2, 9);
        x.seed(77);
        Checks.due("one more, the least", x.span(12, false), 1);
        Checks.due("one more, the most", x.span(12, true), 2);
        Checks.due("the seed stays", x.seed(1), 77);
        spanOfSeeds(17, 100, 0, 1);
        // the first and second draw of each SEED: 38 58, 8 17, 47 7, 17 66, 55 57, 26 15
        TwinRopes six = Checks.town("person at 1 roams 100;person at 2;person at 2;person at 2;person at 2;person at 1 roams 28");
        Checks.tellLaw(six, "tell 9");
        // the sixth draw of each SEED: 27, 95, 96, 96, 64, 65
        Checks.due("SEED 1 is one of six", six.span(12, true), 1);
        spanOfSeeds(40, 17, 0, 1);
        spanOfSeeds(39, 17, 0, 1);
        spanOfSeeds(26, 17, 0, 0);
        spanOfSeeds(100, 66, 0, 1);
        spanOfSeeds(100, 67, 1, 1);
        spanOfSeeds(55, 100, 0, 1);
        spanOfSeeds(56, 100, 1, 1);
    }

    private static void spanOfSeeds(int roams, int others, int least, int most) {
        TwinRopes x = Checks.town("person at 4 roams " + roams + ";person at 4 roams " + others);
        Checks.tellLaw(x, "tell 9");
        Checks.due("least of " + roams + " and " + others, x.span(12, false), least);
        Checks.due("most of " + roams + " and " + others, x.span(12, true), most);
    }

    private static void promise50And51() {
        TwinRopes x = Checks.town(FOUR);
        Checks.due("no row", x.log(0, 0), -2);
        Checks.due("led of no row", x.led(0, false), 0);
        Checks.due("day of no row", x.led(0, true), -1);
        Checks.tellTown(x, "hour 11;day 41;rope 1 11 1");
        x.hours(5);
        int[][] rows = {{42, 3, 1, 2, 2}, {42, 2, -1, 3, 1}, {42, 1, 2, -1, 1}, {42, 0, 0, 1, 4}, {41, 11, -1, 1, 1},
            {-2, -2, -2, -2, -2}};
        for (int ago = 0; ago < rows.length; ago++) {
            for (int what = 0; what < 5; what++) {
                Checks.due("log(" + ago + ", " + what + ")", x.log(ago, what), rows[ago][what]);
            }
        }
        for (int ago : new int[] {-1, Integer.MIN_VALUE, Integer.MAX_VALUE, 60}) {
            Checks.due("log(" + ago + ", 0)", x.log(ago, 0), -2);
        }
        for (int what : new int[] {-1, 5, Integer.MIN_VALUE, Integer.MAX_VALUE}) {
            Checks.refusedWhole(x, "log of another what", NoSuchElementException.class, () -> x.log(0, what));
            Checks.refusedWhole(x, "log of another what, no row", NoSuchElementException.class, () -> x.log(99, what));
        }
        Checks.due("rows of 1", x.led(1, false), 3);
        Checks.due("rows of 0", x.led(0, false), 1);
        x.hours(8);
        Checks.due("an hour of nobody has no row", x.count(10), 6);
        Checks.due("the latest", x.log(0, 1) * 100 + x.log(0, 0), 1142);
        Checks.tellTown(x, "day 7");
        x.hours(1);
        Checks.due("day of the latest of 1", x.led(1, true), 7);
        Checks.due("day of the latest of 3", x.led(3, true), 42);
        badPerson(x, "led", person -> x.led(person, true));
        badPerson(x, "led", person -> x.led(person, false));
        promise51Sixty();
    }

    private static void promise51Sixty() {
        TwinRopes x = Checks.town("person at 1;person at 2;person at 3;rope 0 0 2", ALL_HOURS_FIRST, ALL_HOURS_SECOND);
        x.rope(0, 0, 2);
        x.hours(60);
        Checks.due("sixty rows", x.count(10), 60);
        Checks.due("the first of them", x.log(59, 0) * 100 + x.log(59, 1), 0);
        Checks.due("rows of 2", x.led(2, false), 5);
        x.off(0, 0);
        x.hours(7);
        Checks.due("no more", x.count(10), 60);
        Checks.due("the first of them then", x.log(59, 0) * 100 + x.log(59, 1), 7);
        Checks.due("none behind it", x.log(60, 0), -2);
        Checks.due("rows of 2 then", x.led(2, false), 4);
        Checks.due("rows of 1 then", x.led(1, false), 60);
        Checks.due("the latest", x.log(0, 0) * 100 + x.log(0, 1), 506);
        x.hours(120);
        Checks.due("rows of 2 at last", x.led(2, false), 0);
        Checks.due("its day", x.led(2, true), -1);
    }
}

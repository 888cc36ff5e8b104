import java.util.ArrayList;
import java.util.List;

/** What is kept and taken back: the TAPE, acts UNDONE, THE IMAGE, and the counts of all. */
public final class KeepTest extends PromiseCase {
    private static final String TWO = "person at 4 roams 100 pay 3;person at 4 roams 100 sworn;guess 0 1 2;rope 0 0 0;rope 1 0 1";

    public static void main(String[] args) {
        promise1();
        feedOfEachLength();
        feedTheHighestFirst();
        endOfEachLength();
        undone();
        undoneOfEight();
        undoneOneByOne();
        undoneUpToTwelve();
        undoneButFor();
        undoneNone();
        image();
        imageOfAll();
        imageOfFewer();
        imageButFor();
        imageIsOne();
        backOfNone();
        promise56();
        countsAtMost();
        Checks.finish("KeepTest");
    }

    private static void promise1() {
        Doc.promise(1, "A town of nobody.");
        TwinRopes x = new TwinRopes();
        Checks.due("people", x.count(0), 0);
        Checks.due("all", Checks.seen(x), "0 0 -1 0 0 5 0 0 0 0 0 " + "-1 ".repeat(24) + "1 0");
        badPerson(x, "person", person -> x.person(person, 0));
        badPerson(x, "move", person -> x.move(person, 0));
        badPerson(x, "circle", x::circle);
        badPerson(x, "depth", person -> x.depth(person, 0));
        TwinRopes y = new TwinRopes();
        Checks.tellTown(y, TWO);
        Checks.due("another object is another town", x.count(0), 0);
    }

    private static TwinRopes tapeOf(int bytes) {
        TwinRopes x = new TwinRopes();
        for (int i = 0; i < (bytes + 19) / 20; i++) {
            x.feed(0x20202020, 0x20202020, 0x20202020, 0x20202020, 0x20202020);
        }
        x.end(bytes);
        return x;
    }

    private static void feedOfEachLength() {
        Doc.promise(2, "Twenty bytes come behind the TAPE, of each number the highest first: how many it has; NONE, and none come, if it would "
                + "have more than 400.");
        for (int bytes = 0; bytes <= 400; bytes++) {
            TwinRopes x = tapeOf(bytes);
            boolean room = bytes <= 380;
            Checks.due("feed behind " + bytes, x.feed(0x64617920, 0x37202020, 0x20202020, 0x20202020, 0x20202020), room ? bytes + 20 : -1);
            Checks.due("no more than it has", x.end(bytes + (room ? 21 : 1)), false);
            Checks.due("what it has", x.end(bytes + (room ? 20 : 0)), true);
            Checks.due("a text", x.town(), 1);
            Checks.due("of which there is room", x.count(4), room ? 7 : 0);
        }
        TwinRopes full = tapeOf(400);
        for (int i = 0; i < 5; i++) {
            Checks.due("feed of a full one", full.feed(1, 2, 3, 4, 5), -1);
        }
        Checks.due("it is right yet", full.town(), 1);
        Checks.due("used up, it has room", full.feed(0, 0, 0, 0, 0), 20);
    }

    private static void feedTheHighestFirst() {
        // each of the twenty bytes is the wrong one once
        for (int at = 0; at < 20; at++) {
            int[] numbers = {0x20202020, 0x20202020, 0x20202020, 0x20202020, 0x20202020};
            numbers[at / 4] ^= 0x21 << 24 - at % 4 * 8;
            TwinRopes x = new TwinRopes();
            x.feed(numbers[0], numbers[1], numbers[2], numbers[3], numbers[4]);
            Checks.noArgument("town", x::town);
            Checks.due("the byte " + at, x.fault(), at);
            numbers[at / 4] = -1;
            x.feed(numbers[0], numbers[1], numbers[2], numbers[3], numbers[4]);
            Checks.noArgument("law", x::law);
            Checks.due("a number below 0", x.fault(), at / 4 * 4);
        }
    }

    private static void endOfEachLength() {
        Doc.promise(3, "The TAPE has its first n bytes alone: true; false, and nothing happens, if it has fewer, or n is below 0.");
        for (int n = 0; n <= 20; n++) {
            TwinRopes x = new TwinRopes();
            // "day 1;day 2;hour 3;;;"
            x.feed(0x64617920, 0x313b6461, 0x7920323b, 0x686f7572, 0x20333b3b);
            for (int none : new int[] {21, 22, 400, -1, Integer.MAX_VALUE, Integer.MIN_VALUE}) {
                Checks.due("end(" + none + ")", x.end(none), false);
            }
            Checks.due("end(" + n + ")", x.end(n), true);
            Checks.due("no more than that", x.end(n + 1), false);
            Checks.due("that again", x.end(n), true);
            int[] faults = {-1, 0, 0, 3, 4, -1, 6, 6, 6, 9, 10, -1, 12, 12, 12, 12, 16, 17, -1, 19, 19};
            if (faults[n] < 0) {
                x.town();
            } else {
                Checks.noArgument("town of " + n + " bytes", x::town);
            }
            Checks.due("fault of " + n + " bytes", x.fault(), faults[n]);
            Checks.due("day and hour", x.count(4) * 10 + x.count(3), n == 5 ? 10 : n == 11 ? 20 : n == 18 ? 23 : 0);
        }
        TwinRopes empty = new TwinRopes();
        Checks.due("end(0) of an empty one", empty.end(0), true);
        Checks.due("end(1) of an empty one", empty.end(1), false);
        Checks.due("end(-1) of an empty one", empty.end(-1), false);
        TwinRopes full = tapeOf(400);
        Checks.due("end(401) of a full one", full.end(401), false);
        Checks.due("end(400) of a full one", full.end(400), true);
        Checks.due("end(399) of it", full.end(399), true);
        Checks.due("end(400) then", full.end(400), false);
    }

    // ---- UNDONE

    private static void undone() {
        Doc.says("UNDONE: the latest ACT not undone yet (12 are remembered; HOURS of one call are one): all is as ahead of it");
        Doc.promise(53, "UNDONE: whether there was one.");
        Checks.due("none of a new one", new TwinRopes().undo(), false);
        TwinRopes x = Checks.town(TWO);
        List<String> states = new ArrayList<>();
        for (int i = 0; i < 12; i++) {
            states.add(Checks.seenButActs(x));
            act(x, i);
        }
        Checks.due("twelve acts", x.count(11), 12);
        for (int i = 11; i >= 0; i--) {
            Checks.due("undo of act " + i, x.undo(), true);
            Checks.due("all is as ahead of act " + i, Checks.seenButActs(x), states.get(i));
            Checks.due("acts left", x.count(11), i);
        }
        Checks.due("none is left", x.undo(), false);
        Checks.due("nothing happens then", Checks.seenButActs(x), states.get(0));
    }

    private static void act(TwinRopes x, int which) {
        switch (which % 12) {
            case 0: x.hours(1); break;
            case 1: x.rope(1, 11, 0); break;
            case 2: x.rope(0, 11, 1); break;
            case 3: x.swear(0, true); break;
            case 4: x.guess(1, 0, 4); break;
            case 5: x.hours(120); break;
            case 6: x.change(11); break;
            case 7: x.move(0, 1); break;
            case 8: x.forget(1); break;
            case 9: x.hours(11); break;
            case 10: x.off(0, 11); break;
            default: x.off(1, 11); break;
        }
    }

    /** Of eight, each of whom has something of each kind. */
    private static TwinRopes eight() {
        TwinRopes x = new TwinRopes();
        for (int person = 0; person < 8; person++) {
            Checks.tellTown(x, "person at " + person + " roams 9" + person + " pay " + person);
        }
        Checks.tellTown(x, "rope 0 0 6;rope 1 0 7;rope 0 1 0;rope 1 1 7;rope 0 10 5;rope 1 10 4;rope 0 11 3;rope 1 11 2;guess 7 6 3;guess 0 7 1");
        x.hours(17);
        x.swear(7, true);
        return x;
    }

    private static void undoneOfEight() {
        TwinRopes x = eight();
        String before = Checks.seenButActs(x);
        Checks.due("rung", x.rung(6, 7) * 100 + x.rung(7, 0) * 10 + x.rung(4, 5), 221);
        x.hours(120);
        Checks.due("rung then", x.rung(6, 7) * 100 + x.rung(7, 0) * 10 + x.rung(4, 5), 245);
        Checks.due("undone", x.undo(), true);
        Checks.due("all of eight is as ahead of it", Checks.seenButActs(x), before);
        for (int person = 0; person < 8; person++) {
            x.forget(person);
            x.move(person, 7);
            x.swear(person, person < 7);
            x.undo();
            x.undo();
            x.undo();
            Checks.due("all is as ahead of three acts of " + person, Checks.seenButActs(x), before);
        }
        x.image();
        x.hours(120);
        x.swear(6, true);
        x.back();
        Checks.due("all of eight is as it was kept", Checks.seenButActs(x), before);
    }

    private static void undoneOneByOne() {
        TwinRopes x = Checks.town(TWO);
        List<String> states = new ArrayList<>();
        int acts = 0;
        // some acts, fewer of them undone, again and again, so that the remembered ones go round
        for (int i = 0; i < 200; i++) {
            if (i % 5 < 3) {
                states.add(Checks.seenButActs(x));
                x.move(i % 2, (i + 1) % 7);
                acts = Math.min(acts + 1, 12);
            } else if (i % 3 > 0 || i > 150) {
                Checks.due("undo", x.undo(), acts > 0);
                if (acts > 0) {
                    Checks.due("as ahead of it", Checks.seenButActs(x), states.remove(states.size() - 1));
                    acts--;
                }
            }
            Checks.due("acts remembered", x.count(11), acts);
        }
    }

    private static void undoneUpToTwelve() {
        for (int acts = 0; acts <= 26; acts++) {
            TwinRopes x = Checks.town("person at 0");
            for (int i = 1; i <= acts; i++) {
                x.move(0, i % 8);
            }
            Checks.due("acts remembered of " + acts, x.count(11), Math.min(acts, 12));
            int undone = 0;
            while (undone < 30 && x.undo()) {
                undone++;
                Checks.due("haunt", x.person(0, 0), (acts - undone) % 8);
            }
            Checks.due("acts undone of " + acts, undone, Math.min(acts, 12));
            Checks.due("none is left", x.count(11), 0);
            Checks.due("haunt at last", x.person(0, 0), (acts - undone) % 8);
        }
    }

    private static void undoneButFor() {
        Doc.says("(but for the TAPE, fault(), THE IMAGE).");
        TwinRopes x = Checks.town(TWO);
        x.move(0, 1);
        x.image();
        x.move(0, 2);
        x.image();
        Checks.wrongTown(x, "day 1;^x");
        Checks.tape(x, "day 44");
        x.undo();
        x.undo();
        Checks.due("haunt", x.person(0, 0), 4);
        Checks.due("fault()", x.fault(), 6);
        Checks.due("the tape has no more", x.end(7), false);
        Checks.due("nor less", x.end(6), true);
        Checks.due("it is told", x.town(), 2);
        Checks.due("day", x.count(4), 44);
        Checks.due("the image", x.back(), true);
        Checks.due("its haunt", x.person(0, 0), 2);
        Checks.due("its day", x.count(4), 0);
        x.hours(120);
        x.seed(-5);
        x.undo();
        Checks.due("SEED, too, is as ahead of it", x.seed(1), 1);
    }

    private static void undoneNone() {
        Doc.says("A text, going back: none are remembered.");
        TwinRopes x = Checks.town(TWO);
        x.move(0, 1);
        x.image();
        Checks.due("an image leaves them", x.count(11), 1);
        Checks.wrongTown(x, "^x");
        Checks.wrongLaw(x, "^x");
        Checks.due("wrong texts leave them", x.count(11), 1);
        Checks.due("a new law", Checks.tellLaw(x, "tell 1"), 1);
        Checks.due("leaves none", x.count(11), 0);
        Checks.due("none", x.undo(), false);
        x.move(0, 2);
        Checks.due("a text, though it is empty", Checks.tellTown(x, ""), 2);
        Checks.due("leaves none", x.count(11), 0);
        x.move(0, 3);
        Checks.due("going back", x.back(), true);
        Checks.due("leaves none", x.count(11), 0);
        Checks.due("none", x.undo(), false);
        x.move(0, 4);
        Checks.due("acts from then on", x.undo(), true);
        Checks.due("are undone", x.person(0, 0), 1);
        for (int texts = 2; texts <= 12; texts++) {
            Checks.tellTown(x, "");
        }
        x.move(0, 5);
        Checks.refused("a 13th text", UnsupportedOperationException.class, () -> Checks.tellTown(x, ""));
        Checks.due("leaves them", x.undo(), true);
        TwinRopes y = Checks.town(TWO);
        y.move(0, 1);
        Checks.due("going back to none", y.back(), false);
        Checks.due("leaves them", y.undo(), true);
    }

    // ---- THE IMAGE

    private static void image() {
        Doc.says("THE IMAGE (one) of all may be kept, and gone back to");
        Doc.promise(54, "THE IMAGE is kept.");
        Doc.promise(55, "One goes back to THE IMAGE: true; false, and nothing happens, if none was kept.");
        TwinRopes x = new TwinRopes();
        x.image();
        Checks.tellTown(x, TWO);
        Checks.tellLaw(x, "tell 3");
        x.hours(120);
        Checks.due("back", x.back(), true);
        Checks.due("a town of nobody", Checks.seen(x), Checks.seen(new TwinRopes()));
        Checks.due("again", x.back(), true);
        Checks.tellTown(x, TWO);
        Checks.due("as of a new one", Checks.seen(x), Checks.seen(Checks.town(TWO)));
    }

    private static void imageOfAll() {
        TwinRopes x = Checks.town(TWO, "doubt 4;hour 9;day 77;rope 0 9 1;rope 1 9 0");
        Checks.tellLaw(x, "guess 1 if near;tell 2 if sworn;hush 1 if day > 78");
        x.hours(30);
        x.seed(-99);
        x.move(1, 4);
        String kept = Checks.seenButActs(x);
        x.image();
        for (int i = 0; i < 10; i++) {
            act(x, i);
            Checks.due("back from act " + i, x.back(), true);
            Checks.due("all is as it was kept", Checks.seenButActs(x), kept);
        }
        Checks.tellLaw(x, "");
        Checks.tellTown(x, "person at 7;doubt 9;guess 2 0 9");
        x.seed(12);
        x.hours(120);
        Checks.due("back from texts", x.back(), true);
        Checks.due("all is as it was kept", Checks.seenButActs(x), kept);
        Checks.due("the law holds as it did", x.lets(1, 0) * 10 + x.lets(0, 1), 10 * (2 - 1) + -1);
        for (int texts = 3; texts <= 12; texts++) {
            Checks.due("texts from those of the image on", Checks.tellTown(x, ""), texts);
        }
        Checks.refused("a 13th", UnsupportedOperationException.class, () -> Checks.tellTown(x, ""));
        x.back();
        Checks.due("two again", x.count(1), 2);
        TwinRopes y = Checks.town(TWO);
        y.image();
        Checks.tellLaw(y, "tell 9");
        y.back();
        Checks.due("without a law", y.count(2) * 100 + y.lets(0, 1) * 10 + y.sounds(0, 1), -100 + 21);
    }

    /** Whom a text behind THE IMAGE told is no PERSON any more, nor is whom a wrong text told. */
    private static void imageOfFewer() {
        TwinRopes x = Checks.town("person at 1;person at 1;guess 0 1 5");
        x.image();
        Checks.tellTown(x, "person at 1;person at 1;guess 0 1 0;guess 2 3 9;doubt 9");
        Checks.due("four in two pairs", x.teams(-1), 18);
        Checks.due("heads by DOUBT 9", x.heads(), 0b0111);
        x.back();
        fewer(x);
        Checks.wrongTown(x, "person at 1;guess 0 2 9;doubt 9;^x");
        fewer(x);
    }

    private static void fewer(TwinRopes x) {
        badPerson(x, "person", person -> x.person(person, 0));
        badPerson(x, "teams", person -> person == TwinRopes.NONE ? x.person(person, 0) : x.teams(person));
        badTwo(x, "guessed", x::guessed);
        Checks.due("two who never ring", x.teams(-1), 0);
        Checks.due("heads by DOUBT 5", x.heads(), 0b01);
        Checks.due("crowd", x.crowd(), 0b11);
        Checks.due("longest", x.longest(), 1);
        Checks.due("near", x.person(0, 8), 0b10);
        Checks.due("twins", x.twins(), 1);
    }

    private static void imageButFor() {
        Doc.says("(but for the TAPE, fault() and THE IMAGE itself).");
        TwinRopes x = Checks.town(TWO);
        Checks.wrongTown(x, "day 5;^x");
        Checks.tape(x, "day 1");
        x.image();
        x.end(0);
        Checks.wrongLaw(x, "tell 1^x");
        Checks.tape(x, "day 432");
        x.move(0, 6);
        Checks.due("back", x.back(), true);
        Checks.due("fault()", x.fault(), 6);
        Checks.due("the tape has no more", x.end(8), false);
        Checks.due("nor less", x.end(7), true);
        x.town();
        Checks.due("it is told", x.count(4), 432);
        Checks.due("THE IMAGE itself is there yet", x.back(), true);
        Checks.due("its haunt and day", x.person(0, 0) * 1000 + x.count(4), 4000);
        Checks.wrongTown(x, "^x");
        Checks.tape(x, "");
        x.back();
        Checks.due("fault() yet", x.fault(), 0);
        Checks.due("the tape is empty yet", x.end(1), false);
    }

    private static void imageIsOne() {
        TwinRopes x = Checks.town("person at 0");
        for (int haunt = 1; haunt < 8; haunt++) {
            x.move(0, haunt);
            x.image();
        }
        x.move(0, 0);
        for (int i = 0; i < 3; i++) {
            Checks.due("back", x.back(), true);
            Checks.due("the latest one", x.person(0, 0), 7);
            x.move(0, i);
        }
        x.undo();
        Checks.due("undone", x.person(0, 0), 7);
    }

    private static void backOfNone() {
        TwinRopes x = Checks.town(TWO);
        x.hours(30);
        String before = Checks.seen(x);
        Checks.due("none was kept", x.back(), false);
        Checks.due("nothing happens", Checks.seen(x), before);
        Checks.due("acts are remembered", x.undo(), true);
        Checks.due("none was kept yet", x.back(), false);
        x.image();
        Checks.due("one is", x.back(), true);
    }

    // ---- counts

    private static void promise56() {
        Doc.promise(56, "0 PEOPLE, 1 texts of THE TOWN, 2 LINES of THE LAW (NONE without one), 3 HOUR, 4 DAY, 5 DOUBT, 6 pairs of whom one "
                + "KNOWS of the other one, 7 SWORN ones, as bits, 8 how often somebody is in THE PLAN, 9 GUESSES of all together, 10 rows of "
                + "THE LOG, 11 acts that can be UNDONE. NONE for another what.");
        TwinRopes x = new TwinRopes();
        counts(x, 0, 0, -1, 0, 0, 5, 0, 0, 0, 0, 0, 0);
        Checks.tellTown(x, TWO);
        counts(x, 2, 1, -1, 0, 0, 5, 0, 2, 2, 2, 0, 0);
        Checks.tellLaw(x, "");
        counts(x, 2, 1, 0, 0, 0, 5, 0, 2, 2, 2, 0, 0);
        Checks.tellLaw(x, "guess 4;tell 0;tell 0");
        x.hours(13);
        counts(x, 2, 1, 3, 1, 1, 5, 1, 2, 2, 9 + 8, 2, 1);
        Checks.tellTown(x, "person at 0 sworn;doubt 7;hour 11;day 9;rope 0 5 2;guess 2 0 9;guess 0 2 9;guess 1 2 9");
        counts(x, 3, 2, 3, 11, 9, 7, 3, 6, 3, 17 + 27, 2, 0);
        for (int what : new int[] {-1, 12, 13, Integer.MIN_VALUE, Integer.MAX_VALUE}) {
            Checks.due("count(" + what + ")", x.count(what), -1);
        }
    }

    private static void counts(TwinRopes x, int... want) {
        for (int what = 0; what < want.length; what++) {
            Checks.due("count(" + what + ")", x.count(what), want[what]);
        }
    }

    private static void countsAtMost() {
        TwinRopes x = Checks.town(EIGHT, ALL_HOURS_FIRST, ALL_HOURS_SECOND);
        for (int texts = 4; texts <= 12; texts++) {
            Checks.tellTown(x, "day 999;doubt 9;hour 11");
        }
        Checks.tellLaw(x, "tell 0;".repeat(11) + "tell 0");
        for (int person = 0; person < 8; person++) {
            x.swear(person, true);
            for (int other = 0; other < 8; other++) {
                if (person != other) {
                    x.guess(person, other, 9);
                }
            }
        }
        x.hours(61);
        counts(x, 8, 12, 12, 0, 1005, 9, 28, 255, 24, 504, 60, 12);
    }
}

import java.util.NoSuchElementException;

/** Promises 1 to 6: a new object, the TAPE, the texts of THE TOWN and of THE LAW, fault(). */
public final class TextTest extends PromiseCase {
    public static void main(String[] args) {
        promise1();
        promise2();
        promise3();
        promise4();
        promise4Wrong();
        promise4Refused();
        promise5Parts();
        promise5Conditions();
        promise5Amounts();
        promise5Wrong();
        promise6();
        Checks.finish("TextTest");
    }

    private static void promise1() {
        TwinRopes x = new TwinRopes();
        int[] counts = {0, 0, -1, 0, 0, 5, 0, 0, 0, 0, 0, 0, -1};
        for (int what = 0; what < counts.length; what++) {
            Checks.due("new count(" + what + ")", x.count(what), counts[what]);
        }
        for (int hour = 0; hour < 12; hour++) {
            Checks.due("new plan(0, " + hour + ")", x.plan(0, hour), -1);
            Checks.due("new plan(1, " + hour + ")", x.plan(1, hour), -1);
            Checks.due("new tone(" + hour + ")", x.tone(hour), 0);
            Checks.due("new mend(" + hour + ")", x.mend(hour), -1);
        }
        Checks.due("new fault()", x.fault(), -1);
        Checks.due("new end(0)", x.end(0), true);
        Checks.due("new end(1)", x.end(1), false);
        Checks.due("new chimes(100)", x.chimes(100), 0);
        Checks.due("new longest()", x.longest(), -1);
        Checks.due("new teams(-1)", x.teams(-1), 0);
        Checks.due("new fresh()", x.fresh(), 0);
        Checks.due("new crowd()", x.crowd(), 0);
        Checks.due("new go()", x.go(), 0);
        Checks.due("new cut(false)", x.cut(false), 0);
        Checks.due("new cut(true)", x.cut(true), 0);
        Checks.due("new heads()", x.heads(), 0);
        Checks.due("new pulled(false)", x.pulled(false), 0);
        Checks.due("new pulled(true)", x.pulled(true), 0);
        Checks.due("new listen()", x.listen(), -1);
        Checks.due("new cheap(99)", x.cheap(99), 0);
        Checks.due("new cheapest()", x.cheapest(), -1);
        Checks.due("new spoilt()", x.spoilt(), 0);
        Checks.due("new bill()", x.bill(), 0);
        Checks.due("new most()", x.most(), -1);
        Checks.due("new nosy()", x.nosy(), -1);
        Checks.due("new twins()", x.twins(), 0);
        Checks.due("new trial(100, true)", x.trial(100, true), 0);
        Checks.due("new trial(100, false)", x.trial(100, false), 0);
        Checks.due("new span(100, true)", x.span(100, true), 0);
        Checks.due("new log(0, 4)", x.log(0, 4), -2);
        Checks.due("new undo()", x.undo(), false);
        Checks.due("new back()", x.back(), false);
        Checks.due("new seed(1)", x.seed(1), 1);
        Checks.noIndex("new person(0, 0)", () -> x.person(0, 0));
        Checks.due("NONE", TwinRopes.NONE, -1);
    }

    private static void promise2() {
        TwinRopes x = new TwinRopes();
        // "day 7;doubt 3;hour 5" is 20 bytes, the highest byte of each number first
        Checks.due("feed", x.feed(0x64617920, 0x373b646f, 0x75627420, 0x333b686f, 0x75722035), 20);
        Checks.due("town", x.town(), 1);
        Checks.due("day", x.count(4), 7);
        Checks.due("doubt", x.count(5), 3);
        Checks.due("hour", x.count(3), 5);
        for (int many = 20; many <= 400; many += 20) {
            Checks.due("feed to " + many, x.feed(0x20202020, 0x20202020, 0x20202020, 0x20202020, 0x20202020), many);
        }
        Checks.due("feed beyond 400", x.feed(-1, -1, -1, -1, -1), -1);
        Checks.due("end(401) of 400", x.end(401), false);
        Checks.due("400 blanks are a text", x.town(), 2);
        Checks.due("feed again", x.feed(0, 0, 0, 0, 0), 20);
        Checks.due("end(19)", x.end(19), true);
        for (int many = 39; many <= 399; many += 20) {
            Checks.due("feed to " + many, x.feed(0, 0, 0, 0, 0), many);
        }
        Checks.due("feed 399 to 419", x.feed(0, 0, 0, 0, 0), -1);
        Checks.due("end(399) is left", x.end(399), true);
        Checks.due("feed 380 to 400", x.end(380) && x.feed(0, 0, 0, 0, 0) == 400, true);
    }

    private static void promise3() {
        TwinRopes x = new TwinRopes();
        Checks.tape(x, "day 12");
        Checks.due("end(7)", x.end(7), false);
        Checks.due("end(-1)", x.end(-1), false);
        Checks.due("end(least)", x.end(Integer.MIN_VALUE), false);
        Checks.due("end(greatest)", x.end(Integer.MAX_VALUE), false);
        Checks.due("end(6)", x.end(6), true);
        Checks.due("end(5)", x.end(5), true);
        Checks.due("end(6) of 5", x.end(6), false);
        x.town();
        Checks.due("day of the first 5 bytes", x.count(4), 1);
        Checks.due("the tape is used up", x.end(1), false);
        Checks.tape(x, "day 2");
        Checks.due("end(0)", x.end(0), true);
        x.town();
        Checks.due("an empty text tells no day", x.count(4), 1);
    }

    private static void promise4() {
        TwinRopes x = new TwinRopes();
        Checks.due("first text", Checks.tellTown(x, "  person at 3 roams 100 pay 99 sworn ; person  at 007 ;person at2pay 5"), 1);
        persons(x, 0, 3, 100, 99, 1);
        persons(x, 1, 7, 0, 0, 0);
        persons(x, 2, 2, 0, 5, 0);
        Checks.due("second text", Checks.tellTown(x, "person at 0 roams 7 sworn;guess 3 0 9;guess0 3 1;guess 0 3 4;"
                + "rope 1 11 3;rope 0 11 2;rope 0 11 0;rope 0 11 0;doubt 9;hour 11;day 999  "), 2);
        persons(x, 3, 0, 7, 0, 1);
        Checks.due("guess 3 0", x.guessed(3, 0), 9);
        Checks.due("guess 0 3 is the latest", x.guessed(0, 3), 4);
        Checks.due("loft 1", x.plan(1, 11), 3);
        Checks.due("loft 0 has the latest", x.plan(0, 11), 0);
        Checks.due("doubt", x.count(5), 9);
        Checks.due("hour", x.count(3), 11);
        Checks.due("day", x.count(4), 999);
        Checks.due("people", x.count(0), 4);
        Checks.due("a text of blanks", Checks.tellTown(x, "   "), 3);
        Checks.due("an empty text", Checks.tellTown(x, ""), 4);
        Checks.due("texts", x.count(1), 4);
        Checks.due("fourteen lines", Checks.tellTown(x, "day 1;day 2;day 3;day 4;day 5;day 6;day 7;day 8;day 9;day 10;"
                + "day 11;day 12;day 13;day 14"), 5);
        Checks.due("the last line holds", x.count(4), 14);
        TwinRopes y = Checks.town(EIGHT);
        Checks.due("eight people", y.count(0), 8);
        Checks.due("the eighth", y.person(7, 0), 7);
        Checks.wrongTown(y, "day 5;person at 0", 6);
        Checks.due("nothing of it stays", y.count(4), 0);
        // the one who leaves a rope by another line may go to the other rope
        Checks.due("ropes one behind another", Checks.tellTown(y, "rope 0 3 1;rope 0 3 2;rope 1 3 1"), 2);
        Checks.due("loft 1 then", y.plan(1, 3), 1);
    }

    private static void persons(TwinRopes x, int person, int haunt, int roams, int pay, int sworn) {
        Checks.due("haunt of " + person, x.person(person, 0), haunt);
        Checks.due("roams of " + person, x.person(person, 1), roams);
        Checks.due("pay of " + person, x.person(person, 2), pay);
        Checks.due("sworn of " + person, x.person(person, 3), sworn);
    }

    private static void promise4Wrong() {
        TwinRopes x = Checks.town("person at 1;person at 2;rope 0 3 1");
        String before = Checks.seen(x);
        String[] texts = {"person", "person ", "Person at 1", "persons at 1", "person at", "person a 1", "person att 1",
            "person at 8", "person at x", "person at 0001", "person at 1 roams 101", "person at 1 roams", "person at 1 pay 100",
            "person at 1 pay 1000", "person at 1 pay 5 roams 5", "person at 1 sworn sworn", "person at 1 sworn pay 5",
            "person at 1;", "person at 1 ; ", ";", " ;day 1", "day 1;;day 2", "day 1,day 2", "day 1 day 2", "day 1000", "day",
            "day -1", "day 1\t", "hour 12", "hour", "doubt 0", "doubt 10", "doubt x", "guess 0 0 1", "guess 2 0 1",
            "guess 0 2 1", "guess 0 1 10", "guess 0 1", "guess 0", "rope 2 0 0", "rope 0 12 0", "rope 0 0 2", "rope 1 3 1",
            "rope 0 0", "rope 0", "rope", "bell", "5", "day 1 \u00ff", "\u00ffday 1", "\u0000", "tell 5", "guess 0 1 1000",
            "person at 1;guess 2 3 1", "day 12 3", "day 1;x"};
        int[] places = {6, 7, 0, 0, 9, 7, 7,
            10, 10, 10, 18, 17, 16,
            16, 18, 18, 18,
            12, 14, 0, 1, 6, 5, 6, 4, 3,
            4, 5, 5, 4, 6, 6, 6, 8, 6,
            8, 10, 9, 7, 5, 7, 9, 9,
            8, 6, 4, 0, 0, 6, 0, 0, 0, 10,
            20, 7, 6};
        for (int i = 0; i < texts.length; i++) {
            Checks.wrongTown(x, texts[i], places[i]);
            Checks.due("the tape is used up", x.end(1), false);
        }
        Checks.wrongTown(x, "person at 1 pay", 15);
        Checks.wrongTown(x, "guess", 5);
        Checks.wrongTown(x, "doubt", 5);
        Checks.wrongTown(x, "dayz 1", 0);
        Checks.wrongTown(x, "dperson at 1", 0);
        Checks.wrongTown(x, "persond at 1", 0);
        // numbers that are a sign's, or another kind of thing's, number are numbers yet
        Checks.wrongTown(x, "day 1 59 day 2", 6);
        Checks.wrongTown(x, "person 52 1", 7);
        Checks.wrongTown(x, "day a", 4);
        Checks.due("nothing stays of wrong texts", Checks.seen(x), before);
        Checks.wrongTown(x, "day 1;day 1;day 1;day 1;day 1;day 1;day 1;day 1;day 1;day 1;day 1;day 1;day 1;day 1; day 1", 85);
        Checks.wrongTown(x, "day 1;day 1;day 1;day 1;day 1;day 1;day 1;day 1;day 1;day 1;day 1;day 1;day 1;day 1; ", 85);
        Checks.wrongTown(x, "person at 1;person at 1;person at 1;person at 1;person at 1;person at 1;person at 1", 72);
        Checks.due("nothing stays of long texts", Checks.seen(x), before);
        Checks.due("a person of a wrong text is none", Checks.tellTown(x, "guess 0 1 1"), 2);
    }

    private static void promise4Refused() {
        TwinRopes x = Checks.town("person at 1");
        for (int texts = 2; texts <= 12; texts++) {
            Checks.due("text " + texts, Checks.tellTown(x, "day " + texts), texts);
        }
        x.swear(0, true);
        Checks.wrongTown(x, "day x", 4);
        Checks.refusedWhole(x, "the 13th text", UnsupportedOperationException.class, () -> Checks.tellTown(x, "day 100"));
        Checks.due("fault of a right one that is refused", x.fault(), -1);
        Checks.due("its tape is used up", x.end(1), false);
        Checks.due("acts are remembered yet", x.count(11), 1);
        Checks.due("a law is no text of the town", Checks.tellLaw(x, ""), 0);
    }

    private static void promise5Parts() {
        TwinRopes x = Checks.town("person at 1 sworn;person at 1;person at 2;guess 0 1 4;guess 1 0 2;hour 7;day 31;doubt 9");
        holds(x, "one < 1", 1, 0);
        holds(x, "other < 1", 0, 1);
        holds(x, "guess > 3", 1, 0);
        holds(x, "back > 3", 0, 1);
        holds(x, "back < 3", 1, 0);
        holds(x, "hour > 6", 1, 1);
        holds(x, "hour < 7", 0, 0);
        holds(x, "day > 30 and day < 32", 1, 1);
        holds(x, "sworn", 1, 0);
        holds(x, "near", 1, 1);
        holds(x, "rung > 0", 0, 0);
        holds(x, "rang", 1, 1);
        Checks.due("rang is never as they meet", x.lets(0, 1), 0);
        Checks.due("near, of others", Checks.tellLaw(x, "guess 1 if near;tell 3 if not near"), 2);
        Checks.due("sounds(0, 2)", x.sounds(0, 2), 0);
        Checks.due("lets(0, 2)", x.lets(0, 2), 3);
        Checks.due("lets(0, 1)", x.lets(0, 1), 0);
        holds(x, "guess+back > 5", 1, 1);
        holds(x, "guess + back > 6", 0, 0);
        holds(x, "guess + guess + 1 > back + back + back + 2", 1, 0);
        holds(x, "999 > 998 + 0", 1, 1);
        holds(x, "5 < 5", 0, 0);
        holds(x, "5 > 5", 0, 0);
        x.guess(0, 1, 9);
        Checks.due("rang not with TONE 2", Checks.tellLaw(x, "guess 4 if rang;guess 1"), 2);
        Checks.due("sounds as one knows", x.sounds(1, 0), 1);
        x.guess(0, 1, 8);
        Checks.due("sounds as it rings", x.sounds(1, 0), 5);
        Checks.tellTown(x, "doubt 8");
        Checks.due("sounds as it is cracked", x.sounds(1, 0), 1);
    }

    private static void promise5Conditions() {
        TwinRopes x = Checks.town("person at 1;person at 2");
        holds(x, "0 < 1", 1, 1);
        holds(x, "not 0 < 1", 0, 0);
        holds(x, "not not 0 < 1", 1, 1);
        holds(x, "0 < 1 or 0 < 1 and 1 < 0", 1, 1);
        holds(x, "(0 < 1 or 0 < 1) and 1 < 0", 0, 0);
        holds(x, "1 < 0 and 0 < 1 or 0 < 1", 1, 1);
        holds(x, "1 < 0 and (0 < 1 or 0 < 1)", 0, 0);
        holds(x, "not 1 < 0 and 1 < 0", 0, 0);
        holds(x, "not (1 < 0 and 1 < 0)", 1, 1);
        holds(x, "not near or near", 1, 1);
        holds(x, "1 < 0 or 1 < 0 or 0 < 1", 1, 1);
        holds(x, "0 < 1 and 0 < 1 and 1 < 0", 0, 0);
        holds(x, "((((((0 < 1))))))", 1, 1);
        holds(x, "not(not(not(0 < 1)))", 0, 0);
        holds(x, "not not not not not not 0 < 1", 1, 1);
        // side by side they are not within one another
        holds(x, "not not not (not not near) or not not not (not not near) or (((near)))", 1, 1);
        // as much as can wait at once: an or and an and six deep, and a sum in a comparison behind them
        holds(x, "1<0 or 0<1 and (".repeat(6) + "1<0 or 0<1 and 0+0+1<0+1+1" + ")".repeat(6), 1, 1);
        holds(x, "1<0 or 0<1 and (".repeat(6) + "1<0 or 0<1 and 0+0+1<0+0+1" + ")".repeat(6), 0, 0);
        Checks.due("400 bytes", Checks.tellLaw(x, "tell1if0<" + "1+".repeat(195) + "1"), 1);
        Checks.due("they hold", x.lets(0, 1), 1);
        Checks.due("400 bytes more", Checks.tellLaw(x, "tell1if" + "1+".repeat(194) + "1<195+0"), 1);
        Checks.due("195 is not below 195", x.lets(0, 1), 0);
        Checks.due("and again", Checks.tellLaw(x, "tell1if" + "1+".repeat(194) + "1<196+0"), 1);
        Checks.due("195 is below 196", x.lets(0, 1), 1);
        holds(x, "near or(near or(near or(near or(near or(near or 0 < 1 and 0 + 1 + 1 + 1 < 1 + 1 + 1 + 1)))))", 1, 1);
    }

    private static void promise5Amounts() {
        TwinRopes x = Checks.town("person at 1 sworn;person at 1");
        Checks.due("sounds without a law", x.sounds(0, 1), 1);
        Checks.due("lets without a law", x.lets(0, 1), 2);
        Checks.due("a law without a line", Checks.tellLaw(x, "  "), 0);
        Checks.due("its lines", x.count(2), 0);
        Checks.due("sounds by none", x.sounds(0, 1), 0);
        Checks.due("lets by none", x.lets(0, 1), 0);
        Checks.due("three lines", Checks.tellLaw(x, "guess 30;tell 7;hush 2 if sworn"), 3);
        Checks.due("its lines", x.count(2), 3);
        Checks.due("sounds less a hush", x.sounds(0, 1), 28);
        Checks.due("sounds without the hush", x.sounds(1, 0), 30);
        Checks.due("lets less a hush", x.lets(0, 1), 5);
        Checks.due("lets without the hush", x.lets(1, 0), 7);
        Checks.due("a later one in its place", Checks.tellLaw(x, "guess 2;guess 3;hush 1;hush 2;tell 1;tell 1"), 6);
        Checks.due("sum of guess lines", x.sounds(0, 1), 2);
        Checks.due("sum of tell lines", x.lets(0, 1), -1);
        Checks.due("hush alone", Checks.tellLaw(x, "hush 5 if near"), 1);
        Checks.due("less than nothing", x.sounds(0, 1), -5);
        Checks.due("twelve lines", Checks.tellLaw(x, "tell 0;tell 1;tell 2;tell 3;tell 4;tell 5;tell 6;tell 7;tell 8;tell 9;"
                + "tell 10;tell 30"), 12);
        Checks.due("their sum", x.lets(0, 1), 85);
    }

    private static void promise5Wrong() {
        TwinRopes x = Checks.town("person at 1;person at 2");
        Checks.tellLaw(x, "guess 3;tell 4");
        x.swear(0, true);
        String before = Checks.seen(x);
        String[] texts = {"guess", "guess 31", "guess 0031", "tell x", "tax", "hush 5 if", "hush 5 if ", "hush 5 if back",
            "hush 5 if back <", "hush 5 if back < near", "hush 5 if back = 1", "hush 5 if 1000 > 1", "hush 5 if 1 > 1 > 1",
            "hush 5 if near + 1", "hush 5 if (1) < 2", "hush 5 if (near", "hush 5 if near)", "hush 5 if ()", "hush 5 near",
            "hush 5 if near near", "hush 5 if near and", "hush 5 if near or ;", "hush 5 if not", "hush 5 if and near",
            "hush 5 if pay > 1", "hush 5 if one + > 1", "tell 5;", "tell 5;;", "tell 5 tell 5", "person at 1", "hush 5 if me",
            "hush 5 if not not not not not not not near", "hush 5 if (((((((near)))))))", "hush 5 if not(not(not(not near)))",
            "hush 5 if not(not(not(near and (near))))"};
        int[] places = {5, 6, 6, 5, 0, 9, 10, 14,
            16, 17, 15, 10, 16,
            15, 12, 15, 14, 11, 7,
            15, 18, 18, 13, 10,
            10, 16, 7, 7, 7, 0, 10,
            34, 16, 22,
            31};
        for (int i = 0; i < texts.length; i++) {
            Checks.wrongLaw(x, texts[i], places[i]);
            Checks.due("the tape is used up", x.end(1), false);
        }
        Checks.wrongLaw(x, "5", 0);
        Checks.wrongLaw(x, "guess 1 if one 60 2", 15);
        Checks.wrongLaw(x, "guess 1 if 40 near 41", 14);
        Checks.wrongLaw(x, "guess 1 2", 8);
        Checks.wrongLaw(x, "tell1if0<" + "1+".repeat(195) + "+", 399);
        Checks.wrongLaw(x, "tell1if0<" + "1+".repeat(195) + " ", 400);
        Checks.wrongLaw(x, "tell 5;tell 5;tell 5;tell 5;tell 5;tell 5;tell 5;tell 5;tell 5;tell 5;tell 5;tell 5;  tax", 86);
        Checks.due("nothing stays of wrong laws", Checks.seen(x), before);
        Checks.due("a wrong law forgets no act", x.count(11), 1);
        Checks.tellLaw(x, "");
        Checks.due("a right one does", x.count(11), 0);
    }

    private static void promise6() {
        TwinRopes x = new TwinRopes();
        Checks.due("fault ahead of any text", x.fault(), -1);
        Checks.wrongTown(x, "day x", 4);
        Checks.tape(x, "\u0009");
        Checks.noArgument("pulled of one byte", () -> x.pulled(true));
        Checks.due("fault by no text", x.fault(), 4);
        x.image();
        Checks.wrongLaw(x, "tax", 0);
        x.back();
        Checks.due("fault behind back", x.fault(), 0);
        Checks.tellLaw(x, "tell 5");
        Checks.due("fault of a right law", x.fault(), -1);
        Checks.wrongLaw(x, "tell", 4);
        Checks.tellTown(x, "person at 1");
        Checks.due("fault of a right town", x.fault(), -1);
        x.hours(1);
        Checks.wrongTown(x, "day", 3);
        x.undo();
        Checks.due("fault behind undo", x.fault(), 3);
        Checks.refused("another what", NoSuchElementException.class, () -> x.log(0, 5));
        Checks.due("fault yet", x.fault(), 3);
    }
}

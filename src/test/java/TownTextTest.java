/** The texts of THE TOWN, LINE by LINE, each number at its bounds, and what of a wrong text is the first wrong byte. */
public final class TownTextTest extends PromiseCase {
    private static final String FOURTEEN = "person at 0;person at 1;day 1;day 2;day 3;day 4;day 5;hour 1;hour 2;hour 3;doubt 1;"
            + "doubt 2;doubt 3;rope 0 1 1";

    public static void main(String[] args) {
        texts();
        lines();
        personLines();
        personLinesOutOfOrder();
        otherLines();
        haunt();
        guessLines();
        ropeLines();
        ropeLinesInPlace();
        peopleByThen();
        day();
        digits();
        promise4();
        wrongNumbers();
        wrongWords();
        tooMany();
        moreMustCome();
        nothingStays();
        Checks.finish("TownTextTest");
    }

    private static void texts() {
        Doc.says("THE TOWN is told in texts (at most 12, one behind another):");
        TwinRopes x = new TwinRopes();
        for (int texts = 1; texts <= 12; texts++) {
            Checks.due("texts ahead", x.count(1), texts - 1);
            Checks.due("text " + texts, Checks.tellTown(x, "day " + texts + (texts < 9 ? ";person at 1" : "")), texts);
            Checks.due("each behind the one ahead", x.count(4) * 10 + x.count(0), texts * 10 + Math.min(texts, 8));
        }
        x.swear(0, true);
        for (String text : new String[] {"day 77", "", "  ", "doubt 2;hour 2"}) {
            Checks.refusedWhole(x, "a 13th text", UnsupportedOperationException.class, () -> Checks.tellTown(x, text));
            Checks.due("it is right", x.fault(), -1);
        }
        Checks.wrongTown(x, "day ^1000");
        Checks.due("twelve texts yet", x.count(1), 12);
        TwinRopes y = Checks.town("day 5;doubt 3");
        Checks.wrongTown(y, "day 6;^days 6");
        Checks.due("a wrong text is none of the 12", Checks.tellTown(y, ""), 2);
    }

    private static void lines() {
        Doc.says("LINE { ; LINE }, at most 14:");
        TwinRopes x = new TwinRopes();
        Checks.due("one", Checks.tellTown(x, "day 1"), 1);
        Checks.due("two", Checks.tellTown(x, "day 2;hour 3"), 2);
        Checks.due("both hold", x.count(4) * 100 + x.count(3), 203);
        Checks.due("fourteen", Checks.tellTown(x, FOURTEEN), 3);
        Checks.due("the first and the last hold", x.count(0) * 10 + x.plan(0, 1), 21);
        Checks.wrongTown(x, FOURTEEN + ";^day 1");
        Checks.wrongTown(x, FOURTEEN + ";^person at 1");
        Checks.wrongTown(x, FOURTEEN + " ;  ^bell");
        Checks.wrongTown(x, FOURTEEN + ";^;");
        Checks.wrongTown(x, FOURTEEN + ";^");
        Checks.wrongTown(x, FOURTEEN + "; ^");
        Checks.wrongTown(x, FOURTEEN + " ^day 1");
        Checks.wrongTown(x, "day 1 ^hour 1");
        Checks.wrongTown(x, "day 1;^;hour 1");
        Checks.wrongTown(x, "^;day 1");
        Checks.wrongTown(x, "day 1;^");
        Checks.wrongTown(x, "day 1^:hour 1");
    }

    private static void personLines() {
        Doc.says("person at N [ roams N ] [ pay N ] [ sworn ] |");
        TwinRopes x = new TwinRopes();
        for (int with = 0; with < 8; with++) {
            Checks.tellTown(x, "person at " + with + ((with & 4) > 0 ? " roams 4" + with : "") + ((with & 2) > 0 ? " pay 2" + with : "")
                    + ((with & 1) > 0 ? " sworn" : ""));
            Checks.due("haunt", x.person(with, 0), with);
            Checks.due("roams", x.person(with, 1), (with & 4) > 0 ? 40 + with : 0);
            Checks.due("pay", x.person(with, 2), (with & 2) > 0 ? 20 + with : 0);
            Checks.due("sworn", x.person(with, 3), with & 1);
        }
    }

    private static void personLinesOutOfOrder() {
        TwinRopes x = new TwinRopes();
        Checks.wrongTown(x, "person at 1 pay 1 ^roams 1");
        Checks.wrongTown(x, "person at 1 sworn ^roams 1");
        Checks.wrongTown(x, "person at 1 sworn ^pay 1");
        Checks.wrongTown(x, "person at 1 roams 1 ^roams 1");
        Checks.wrongTown(x, "person at 1 pay 1 ^pay 1");
        Checks.wrongTown(x, "person at 1 sworn ^sworn");
        Checks.wrongTown(x, "person ^1");
        Checks.wrongTown(x, "person ^roams 1");
        Checks.wrongTown(x, "person at ^roams 1");
        Checks.wrongTown(x, "person at 1 ^1");
        Checks.wrongTown(x, "person at 1 ^at 1");
        Checks.wrongTown(x, "person at 1 roams ^pay 1");
        Checks.wrongTown(x, "person at 1 roams 1 ^1");
        Checks.wrongTown(x, "person at 1 pay ^sworn");
        Checks.wrongTown(x, "person at 1 pay 1 ^1");
        Checks.wrongTown(x, "person at 1 sworn ^1");
        Checks.wrongTown(x, "^at 1");
        Checks.due("nobody", x.count(0), 0);
    }

    private static void otherLines() {
        Doc.says("guess H H N | rope N N H | doubt N | hour N | day N.");
        TwinRopes x = Checks.town("person at 0;person at 0;guess 0 1 4;rope 1 11 0;doubt 7;hour 6;day 321");
        Checks.due("guess", x.guessed(0, 1) * 10 + x.guessed(1, 0), 40);
        Checks.due("rope", x.plan(1, 11), 0);
        Checks.due("doubt", x.count(5), 7);
        Checks.due("hour", x.count(3), 6);
        Checks.due("day", x.count(4), 321);
        String[] wrong = {"guess^", "guess 0^", "guess 0 1^", "guess 0 1 4 ^4", "guess 0 1 ^x", "guess ^person", "guess 0 ^day", "rope^",
            "rope 1^", "rope 1 11^", "rope 1 11 0 ^0", "rope ^x", "rope 1 ^x", "rope 1 11 ^x", "doubt^", "doubt ^x", "doubt 7 ^7",
            "hour^", "hour ^x", "hour 6 ^6", "day^", "day ^x", "day 321 ^321", "^at 1", "^roams 1", "^pay 1", "^sworn", "^1"};
        for (String text : wrong) {
            Checks.wrongTown(x, text);
        }
    }

    private static void haunt() {
        Doc.says("(at: a HAUNT;");
        TwinRopes x = Checks.town("person at 0;person at 7");
        Checks.due("haunts", x.person(0, 0) * 10 + x.person(1, 0), 7);
        Checks.wrongTown(x, "person at ^8");
        Checks.wrongTown(x, "person at ^100");
        Checks.wrongTown(x, "person at ^008");
        Checks.wrongTown(x, "person at ^0007");
    }

    private static void guessLines() {
        Doc.says("guess: the first one GUESSES N of the second one, another one, else it is wrong at it;");
        TwinRopes x = Checks.town(EIGHT, "guess 7 0 9;guess 0 7 1;guess 6 7 8;guess 6 7 0");
        Checks.due("7 of 0", x.guessed(7, 0), 9);
        Checks.due("0 of 7", x.guessed(0, 7), 1);
        Checks.due("6 of 7 at last", x.guessed(6, 7), 0);
        Checks.wrongTown(x, "guess 0 ^0 1");
        Checks.wrongTown(x, "guess 7 ^7 1");
        Checks.wrongTown(x, "guess 7 ^007 1");
        Checks.wrongTown(x, "guess 07 ^7 10");
        Checks.wrongTown(x, "guess ^8 8 1");
        Checks.wrongTown(x, "guess 0 ^8 1");
        Checks.wrongTown(x, "guess 0 1 ^10");
        Checks.wrongTown(x, "guess 0 1 ^009999");
    }

    private static void ropeLines() {
        Doc.says("rope: a LOFT, an HOUR, a PERSON that is not in the other LOFT in that HOUR, else it is wrong at it;");
        TwinRopes x = Checks.town(EIGHT, "rope 0 0 0;rope 1 0 7;rope 0 11 7;rope 1 11 0");
        Checks.due("hour 0", x.plan(0, 0) * 10 + x.plan(1, 0), 7);
        Checks.due("hour 11", x.plan(0, 11) * 10 + x.plan(1, 11), 70);
        Checks.wrongTown(x, "rope ^2 0 0");
        Checks.wrongTown(x, "rope ^0001 0 0");
        Checks.wrongTown(x, "rope 0 ^12 0");
        Checks.wrongTown(x, "rope 0 ^0011 0");
        Checks.wrongTown(x, "rope 0 5 ^8");
        Checks.wrongTown(x, "rope 0 5 ^0007");
        Checks.wrongTown(x, "rope 1 0 ^0");
        Checks.wrongTown(x, "rope 0 0 ^7");
        Checks.wrongTown(x, "rope 0 0 ^07;x");
        Checks.wrongTown(x, "rope 0 11 ^0");
        Checks.wrongTown(x, "rope 1 11 ^7");
        Checks.wrongTown(x, "rope 0 3 3;rope 1 3 ^3");
        Checks.wrongTown(x, "rope 1 3 3;rope 0 3 ^3");
    }

    private static void ropeLinesInPlace() {
        TwinRopes x = Checks.town(EIGHT, "rope 0 0 0;rope 1 0 7;rope 0 11 7;rope 1 11 0");
        Checks.due("right", Checks.tellTown(x, "rope 0 0 0;rope 0 0 1;rope 1 0 0;rope 1 1 1"), 3);
        Checks.due("in place of whoever is there", x.plan(0, 0) * 10 + x.plan(1, 0), 10);
        Checks.due("in another hour", x.plan(1, 1), 1);
        Checks.due("a text is no act", x.count(11), 0);
    }

    private static void peopleByThen() {
        Doc.says("H: a PERSON that there is by then;");
        Checks.wrongTown(new TwinRopes(), "guess ^0 1 1");
        Checks.wrongTown(new TwinRopes(), "rope 0 0 ^0");
        Checks.wrongTown(new TwinRopes(), "person at 0;guess 0 ^1 1;person at 0");
        Checks.wrongTown(new TwinRopes(), "person at 0;guess ^1 0 1;person at 0");
        Checks.wrongTown(new TwinRopes(), "person at 0;rope 0 0 ^1;person at 0");
        Checks.due("by then there are two", Checks.town("person at 0;person at 0;guess 1 0 1;guess 0 1 2;rope 1 0 1").count(9), 3);
        TwinRopes x = Checks.town("person at 0", "person at 0;guess 0 1 1");
        Checks.due("of an earlier text", x.guessed(0, 1), 1);
        Checks.wrongTown(x, "guess ^2 0 1");
        TwinRopes eight = Checks.town(EIGHT);
        Checks.wrongTown(eight, "guess 7 6 1;guess ^8 0 1");
        Checks.wrongTown(eight, "rope 0 0 7;rope 1 0 ^8");
        Checks.wrongTown(eight, "rope 1 0 ^999");
    }

    private static void day() {
        Doc.says("day: 0 to 999.)");
        TwinRopes x = Checks.town("day 999");
        Checks.due("day 999", x.count(4), 999);
        Checks.tellTown(x, "day 0");
        Checks.due("day 0", x.count(4), 0);
        Checks.wrongTown(x, "day ^1000");
        Checks.wrongTown(x, "day ^9999");
        Checks.tellTown(x, "hour 0");
        Checks.tellTown(x, "hour 11");
        Checks.due("hour 11", x.count(3), 11);
        Checks.wrongTown(x, "hour ^12");
        Checks.wrongTown(x, "doubt ^0");
        Checks.wrongTown(x, "doubt ^000");
        Checks.wrongTown(x, "doubt ^10");
    }

    private static void digits() {
        Doc.says("Numbers are of 1 to 3 digits.");
        TwinRopes x = Checks.town("person at 007 roams 01 pay 001 sworn;person at 07;guess 00 001 09;rope 001 011 01;doubt 009;hour 010;"
                + "day 099");
        Checks.due("haunts", x.person(0, 0) * 10 + x.person(1, 0), 77);
        Checks.due("roams and pay", x.person(0, 1) * 10 + x.person(0, 2), 11);
        Checks.due("guess", x.guessed(0, 1), 9);
        Checks.due("rope", x.plan(1, 11), 1);
        Checks.due("doubt, hour, day", x.count(5) + 100 * x.count(3) + 10000 * x.count(4), 991009);
        for (String text : new String[] {"day ^0001", "hour ^0001", "doubt ^0001", "person at ^0000", "person at 0 roams ^0001",
            "person at 0 pay ^0001", "guess ^0000 1 1", "guess 0 ^0001 1", "guess 0 1 ^0001", "rope ^0000 0 0", "rope 0 ^0000 0",
            "rope 0 0 ^0000", "day ^00000000000000000001", "day ^4294967297", "day ^18446744073709551617"}) {
            Checks.wrongTown(x, text);
        }
    }

    private static void promise4() {
        Doc.promise(4, "Uses the TAPE up: a text of THE TOWN: how many texts there are. IllegalArgumentException: it is wrong; "
                + "UnsupportedOperationException: there are 12.");
        TwinRopes x = new TwinRopes();
        Checks.due("an empty tape is a text", x.town(), 1);
        Checks.tape(x, "day 5");
        Checks.due("a second text", x.town(), 2);
        Checks.due("the tape is empty", x.end(1), false);
        Checks.due("so that the next text is, too", x.town(), 3);
        Checks.wrongTown(x, "^bell");
        Checks.due("the tape of a wrong text is empty", x.end(1), false);
        Checks.due("four", x.town(), 4);
        for (int texts = 5; texts <= 12; texts++) {
            x.town();
        }
        Checks.tape(x, "day 6");
        Checks.refused("town of a 13th", UnsupportedOperationException.class, x::town);
        Checks.due("the tape of a refused text is empty", x.end(1), false);
        Checks.wrongTown(x, "day 6;^bell");
        Checks.due("day 5 yet", x.count(4), 5);
    }

    private static void wrongNumbers() {
        Doc.says("The first wrong byte: the begin of the first thing that cannot stand there");
        Doc.says("(a number of more digits, or out of its bounds, or that tells none that can be;");
        TwinRopes x = Checks.town("person at 0;person at 1;rope 0 2 0");
        Checks.wrongTown(x, "  day   ^1234");
        Checks.wrongTown(x, "hour 5 ;  hour  ^12 ; bell");
        Checks.wrongTown(x, "person at 0;person at 0 roams ^101 pay 500");
        Checks.wrongTown(x, "guess 1 ^1 50");
        Checks.wrongTown(x, "guess ^3 3 50");
        Checks.wrongTown(x, "rope 1 2 ^0 ; day 1000");
        Checks.wrongTown(x, "day ^9999999day");
        Checks.wrongTown(x, "day^9999999");
        Checks.wrongTown(x, "day 1^.5");
    }

    private static void wrongWords() {
        Doc.says("a word that is none;");
        TwinRopes x = new TwinRopes();
        for (String text : new String[] {"^bell", "^persons at 1", "^perso at 1", "^personat 1", "person ^ats 1", "person ^a 1",
            "person at 1 ^roam 1", "person at 1 ^roamss 1", "person at 1 ^pays 1", "person at 1 ^swor", "person at 1 ^sworns", "^days 1",
            "^hours 1", "^doubts 1", "^guesses 0 1 1", "^ropes 0 0 0", "^Day 1", "^dAy 1", "^daz 1", "^DAY 1",
            "day 1;^dayday 1", "^aaaaaaaaaaaaaaaaaaaaaaaaaaaaaaaa", "^personpersonperson at 1", "person at 1 ^guess 0 1 1", "^tell 1",
            "^hush 1", "^if"}) {
            Checks.wrongTown(x, text);
        }
        // words of more letters, whose last ones are a right one's
        for (String text : new String[] {"^aperson at 1", "^dperson at 1", "^persond at 1", "^derson at 1", "^lerson at 1", "^zay 1", "^dayz 1",
            "^z", "person ^t 1", "person at 1 ^roaams 1", "person at 1 ^way 1", "day 1;^h 1"}) {
            Checks.wrongTown(x, text);
        }
        Checks.wrongTown(x, "person at 1 ^xpay 1");
    }

    private static void tooMany() {
        Doc.says("of a LINE, a PERSON too many, the first word),");
        TwinRopes x = Checks.town(EIGHT);
        Checks.wrongTown(x, "^person at 1");
        Checks.wrongTown(x, "day 1; ^person at 99");
        Checks.wrongTown(x, "^person");
        Checks.wrongTown(x, "day 1;day 1;day 1;day 1;day 1;day 1;day 1;day 1;day 1;day 1;day 1;day 1;day 1;day 1;^person at 1");
        Checks.wrongTown(x, "day 1;day 1;day 1;day 1;day 1;day 1;day 1;day 1;day 1;day 1;day 1;day 1;day 1;day 1 ; ^day 1000");
        TwinRopes y = Checks.town("person at 0");
        Checks.wrongTown(y, EIGHT.replace(";person at 7", ";^person at 7"));
        Checks.due("one yet", y.count(0), 1);
        Checks.due("seven more", Checks.tellTown(y, EIGHT.replace(";person at 7", "")), 2);
        Checks.due("eight", y.count(0), 8);
    }

    private static void moreMustCome() {
        Doc.says("or the text's length, if more must come.");
        TwinRopes x = Checks.town("person at 0;person at 1");
        for (String text : new String[] {"person^", "person at^", "person at 1 roams^", "person at 1 pay^", "person at 1 roams 5 pay   ^",
            "guess^", "guess 0^", "guess 0 1  ^", "rope^", "rope 0^", "rope 0 0^", "doubt^", "hour ^", "day    ^", "day 1;^", "day 1 ; ^"}) {
            Checks.wrongTown(x, text);
        }
        String full = " ".repeat(394) + "day";
        Checks.wrongTown(x, full + "   ^");
        Checks.wrongTown(x, full + " 1^x");
        Checks.due("400 bytes that are right", Checks.tellTown(x, full + "123"), 2);
        Checks.due("day", x.count(4), 123);
        Checks.wrongTown(x, " ".repeat(399) + "^9");
    }

    private static void nothingStays() {
        Doc.says("Of a wrong text nothing stays.");
        TwinRopes x = Checks.town("person at 0 sworn;person at 1;guess 0 1 4;rope 0 2 0;day 8;hour 7;doubt 6");
        x.hours(1);
        String before = Checks.seen(x);
        Checks.wrongTown(x, "person at 2 roams 5 pay 6 sworn;guess 0 1 5;guess 1 2 9;rope 0 3 2;rope 1 2 2;rope 0 2 1;day 9;hour 0;"
                + "doubt 9;^");
        Checks.due("of a wrong text nothing stays", Checks.seen(x), before);
        Checks.due("nor in the next text", Checks.tellTown(x, ""), 2);
        Checks.wrongTown(x, "guess ^2 0 1");
        Checks.due("nor of its people", x.count(0), 2);
        Checks.due("nor of its guesses", x.guessed(0, 1), 4);
        Checks.due("nor of its ropes", x.plan(0, 3) + x.plan(1, 2), -2);
    }
}

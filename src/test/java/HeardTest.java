/** PULLED and LISTEN: what was heard of two who are unknown, and the TAPE on which it is told. */
public final class HeardTest extends PromiseCase {
    /** 0 and 1 ring in 1 HOUR, 0 and 2 in 3, 1 and 2 in 5. */
    private static final String THREE = "person at 1;person at 2;person at 3;guess 0 1 4;guess 2 0 2";

    public static void main(String[] args) {
        pulled();
        pulledOfFew();
        pulledOfEight();
        pulledTillTheLast();
        who();
        listen();
        listenAtTheBounds();
        listenOfFew();
        eachPairRings();
        promise34();
        promise35();
        theTape();
        theTapeIsNotThat();
        Checks.finish("HeardTest");
    }

    private static void tell(TwinRopes x, int... told) {
        byte[] bytes = new byte[told.length];
        for (int i = 0; i < told.length; i++) {
            bytes[i] = (byte) told[i];
        }
        Checks.tape(x, bytes);
    }

    private static int pulled(TwinRopes x, int... told) {
        tell(x, told);
        return x.pulled(false);
    }

    private static int who(TwinRopes x, int... told) {
        tell(x, told);
        return x.pulled(true);
    }

    private static int listen(TwinRopes x, int... told) {
        tell(x, told);
        return x.listen();
    }

    private static void pulled() {
        Doc.says("PULLED: told are HOURS (by how many from now on, 0 to 30) and whether one heard it ring (1) or not (0):");
        TwinRopes x = Checks.town(THREE);
        int[] ringing = {3, 2, 2, 1, 1};
        for (int hour = 0; hour <= 30; hour++) {
            int ring = hour < ringing.length ? ringing[hour] : 0;
            Checks.due("it rang in " + hour, pulled(x, hour, 1), ring);
            Checks.due("it rang not in " + hour, pulled(x, hour, 0), 3 - ring);
        }
        Checks.due("now", pulled(x, 0, 1, 1, 1, 2, 1, 3, 1, 4, 1, 5, 0), 1);
        Checks.due("in any order", pulled(x, 30, 0, 3, 0, 2, 1, 0, 1), 1);
        Checks.due("none is so", pulled(x, 1, 0, 2, 1), 0);
        Checks.due("told twice alike", pulled(x, 1, 1, 1, 1), 2);
        Checks.due("told twice alike that it rang not", pulled(x, 1, 0, 1, 0), 1);
        Checks.due("each HOUR that is told counts, the first", pulled(x, 1, 0, 30, 0), 1);
        Checks.due("and the last", pulled(x, 30, 0, 1, 0), 1);
        Checks.due("each in which it rang, the first", pulled(x, 3, 1, 0, 1), 1);
        Checks.due("and the last", pulled(x, 0, 1, 3, 1), 1);
        Checks.due("told both ways", pulled(x, 1, 1, 1, 0), 0);
    }

    private static void pulledOfFew() {
        TwinRopes nobody = new TwinRopes();
        Checks.due("nobody", pulled(nobody), 0);
        Checks.due("nobody, told", pulled(nobody, 30, 0), 0);
        Checks.due("nobody, who", who(nobody, 0, 0), 0);
        TwinRopes one = Checks.town("person at 0");
        Checks.due("one", pulled(one), 0);
        Checks.due("one, told", pulled(one, 0, 0), 0);
        Checks.due("one, who", who(one), 0);
        TwinRopes two = Checks.town("person at 0;person at 0");
        Checks.due("two", pulled(two), 1);
        Checks.due("two, who", who(two), 3);
        Checks.due("two in HOUR 4", pulled(two, 4, 1), 1);
        Checks.due("two in HOUR 5", pulled(two, 5, 1), 0);
        Checks.due("two in HOUR 5, who", who(two, 5, 1), 0);
    }

    private static void pulledOfEight() {
        TwinRopes x = Checks.town(EIGHT);
        Checks.due("eight", pulled(x), 28);
        Checks.due("eight in HOUR 4", pulled(x, 0, 1, 4, 1, 5, 0, 30, 0), 28);
        Checks.due("nobody is in all", who(x), 0);
        x.guess(7, 6, 1);
        Checks.due("but 6 and 7 in HOUR 4", pulled(x, 4, 1), 27);
        Checks.due("these not", who(x, 4, 0), 0b11000000);
        for (int person = 0; person < 7; person++) {
            x.guess(7, person, 1);
        }
        Checks.due("all of 7", pulled(x, 4, 0), 7);
        Checks.due("7 is in all", who(x, 4, 0), 0b10000000);
        Checks.due("of the others nobody is", who(x, 4, 1), 0);
    }

    private static void pulledTillTheLast() {
        Doc.says("one and the same unknown two were at the ropes in each HOUR from now on till the last told one (as in LASTS; none else):");
        TwinRopes x = Checks.town("person at 0 roams 100;person at 0 roams 100;person at 0 roams 100", ALL_HOURS_FIRST, ALL_HOURS_SECOND);
        // in each HOUR both hear more; with meetings, or by THE PLAN, it would be more yet
        Checks.due("as in LASTS", pulled(x, 4, 1, 5, 0), 3);
        Checks.due("none else", who(x, 4, 1), 0);
        Checks.tellTown(x, "hour 10;guess 0 2 1");
        Checks.tellLaw(x, "guess 4 if rang;hush 4 if not rang;tell 30");
        // 0 1: 0 4 8 4 8 4, 0 2: 1 5 1 5 1 5, which rings in each other HOUR alone; they pull on in between
        Checks.due("they pull on", who(x, 0, 1, 1, 0, 2, 1, 3, 0, 12, 1, 13, 0, 30, 1), 0b101);
        Checks.due("the others", pulled(x, 0, 1, 1, 1, 2, 0, 3, 1, 4, 0, 29, 1, 30, 0), 2);
        Checks.tellLaw(x, "hush 9;guess 18 if hour > 10 and day > 0 and one + other > 2");
        Checks.due("hour and day go on", who(x, 12, 1, 13, 1, 14, 0), 0b110);
    }

    private static void who() {
        Doc.says("pairs that fit: how many; WHO: those who are in all of these, as bits (0 without).");
        TwinRopes x = Checks.town(THREE);
        Checks.due("all three", who(x), 0);
        Checks.due("0 2 and 1 2", who(x, 1, 1), 0b100);
        Checks.due("1 2", who(x, 3, 1), 0b110);
        Checks.due("0 1", who(x, 1, 0), 0b011);
        Checks.due("0 1 and 0 2", who(x, 3, 0), 0b001);
        Checks.due("without", who(x, 5, 1), 0);
        Checks.due("how many of without", pulled(x, 5, 1), 0);
    }

    private static void listen() {
        Doc.says("LISTEN: the number (0 to 30) of the HOUR by whose ringing those that fit are parted so that the greater part is the least "
                + "(of several the least; none with fewer than two).");
        TwinRopes x = Checks.town(THREE);
        Checks.due("by 2 and 1", listen(x), 1);
        Checks.due("0 2 and 1 2", listen(x, 1, 1), 3);
        Checks.due("0 1 and 0 2", listen(x, 3, 0), 1);
        Checks.due("two that no HOUR parts", listen(Checks.town("person at 0;person at 0;person at 0;guess 0 1 9"), 0, 1), 0);
        TwinRopes y = Checks.town(EIGHT);
        for (int person = 1; person < 8; person++) {
            y.guess(person, 0, person < 5 ? 4 : 0);
        }
        // of 28 pairs 4 ring in HOUR 0 alone, the others till HOUR 4
        Checks.due("24 and 4", listen(y), 1);
        Checks.due("of the 4 none is parted", listen(y, 1, 0), 0);
        y.guess(7, 6, 2);
        y.guess(7, 5, 2);
        Checks.due("24 and 4 or 22 and 6", listen(y), 3);
        Checks.due("of those that ring in 1 by 22 and 2", listen(y, 1, 1), 3);
    }

    private static void listenAtTheBounds() {
        TwinRopes x = Checks.town("person at 0;person at 0;person at 0");
        for (int rung = 0; rung <= 31; rung++) {
            // all but 0 and 1 know from the HOUR on that is two behind
            Checks.tellLaw(x, "guess 9 if rung > " + rung + " and one + other > 1");
            Checks.due("till RUNG is above " + rung, listen(x), rung + 2 <= 30 ? rung + 2 : 0);
        }
        Checks.tellLaw(x, "guess 9 if one + other > 1");
        Checks.due("HOUR 1", listen(x), 1);
        x.guess(0, 2, 9);
        x.guess(1, 2, 9);
        Checks.due("HOUR 0", listen(x), 0);
    }

    private static void listenOfFew() {
        Checks.due("nobody", listen(new TwinRopes()), -1);
        Checks.due("one", listen(Checks.town("person at 0")), -1);
        Checks.due("two are one pair", listen(Checks.town("person at 0;person at 0")), -1);
        TwinRopes x = Checks.town(THREE);
        Checks.due("one fits", listen(x, 3, 1), -1);
        Checks.due("none fits", listen(x, 5, 1), -1);
        Checks.due("two fit", listen(x, 2, 1), 3);
    }

    private static void eachPairRings() {
        Doc.says("(Each pair rings in a number, if it RINGS in that HOUR, as both were at the ropes in all HOURS from now on.)");
        TwinRopes x = Checks.town("person at 0;person at 0;person at 0;hour 9;day 3");
        Checks.tellLaw(x, "guess 5 if rung > 0 and rang;hush 5 if not rang");
        // each: 0 0 5 0 5 0 5, as RUNG is 0 at first: rings in 0, 1, 3, 5, ..
        Checks.due("all alike", listen(x), 0);
        x.guess(0, 1, 9);
        // 0 1: 9 4 9 4 ..: dumb at first, then it rings, 4, where RUNG is 0: 4 again, 9, 4
        Checks.due("parted at first", listen(x), 0);
        Checks.due("not in 1", listen(x, 1, 1), 0);
        Checks.due("0 1 in 1", who(x, 0, 0, 1, 1, 2, 1, 3, 0), 0b011);
        Checks.due("the others", who(x, 0, 1, 1, 1, 2, 0, 3, 1), 0b100);
        Checks.due("told what parts them, one is left", listen(x, 0, 0), -1);
        Checks.due("the others are not parted", listen(x, 0, 1), 0);
    }

    private static void promise34() {
        Doc.promise(34, "Uses the TAPE up: PULLED (of each two bytes: how many HOURS from now on, 1 or 0; at most 40 bytes): how many pairs (who "
                + "false), or WHO, as bits. IllegalArgumentException: the TAPE is not that (none may be told).");
        TwinRopes x = Checks.town(THREE);
        Checks.due("none told", pulled(x), 3);
        Checks.due("none told, who", who(x), 0);
        int[] forty = new int[40];
        for (int i = 0; i < 40; i += 2) {
            forty[i] = i / 2 + 5;
        }
        Checks.due("forty bytes", pulled(x, forty), 3);
        forty[38] = 4;
        Checks.due("the last ones count", pulled(x, forty), 2);
        Checks.due("the last ones count, who", who(x, forty), 0b001);
        tell(x, 3, 1);
        Checks.due("a call", x.pulled(false), 1);
        Checks.due("uses the tape up", x.end(1), false);
        Checks.due("so that none is told then", x.pulled(false), 3);
        tell(x, 3, 2);
        Checks.noArgument("a wrong one", () -> x.pulled(false));
        Checks.due("uses it up, too", x.end(1), false);
    }

    private static void promise35() {
        Doc.promise(35, "Uses the TAPE up: LISTEN (the TAPE likewise); NONE. IllegalArgumentException: the TAPE is not that.");
        TwinRopes x = Checks.town(THREE);
        tell(x, 1, 1);
        Checks.due("a call", x.listen(), 3);
        Checks.due("uses the tape up", x.end(1), false);
        Checks.due("so that none is told then", x.listen(), 1);
        tell(x, 31, 1);
        Checks.noArgument("a wrong one", x::listen);
        Checks.due("uses it up, too", x.end(1), false);
        int[] forty = new int[40];
        for (int i = 0; i < 40; i += 2) {
            forty[i] = 30;
        }
        Checks.due("forty bytes", listen(x, forty), 1);
    }

    private static void theTape() {
        TwinRopes x = Checks.town(THREE);
        for (int bytes = 0; bytes <= 400; bytes++) {
            int[] told = new int[bytes];
            for (int i = 0; i < bytes; i += 2) {
                told[i] = 30;
            }
            if (bytes <= 40 && bytes % 2 == 0) {
                Checks.due(bytes + " bytes", pulled(x, told), 3);
                Checks.due(bytes + " bytes", listen(x, told), 1);
            } else {
                Checks.noArgument("pulled of " + bytes + " bytes", () -> pulled(x, told));
                Checks.due("used up", x.end(1), false);
                Checks.noArgument("listen of " + bytes + " bytes", () -> listen(x, told));
                Checks.due("used up", x.end(1), false);
            }
        }
    }

    private static void theTapeIsNotThat() {
        TwinRopes x = Checks.town(THREE);
        x.move(0, 7);
        Checks.wrongTown(x, "day ^x");
        for (int[] told : new int[][] {{31, 0}, {31, 1}, {32, 1}, {127, 1}, {128, 1}, {255, 0}, {0, 2}, {0, 3}, {0, 128}, {0, 255}, {30, 2}, {0},
            {0, 1, 0}, {0, 1, 31, 1}, {0, 1, 0, 2}, {31, 1, 0, 1}, {0, 2, 0, 1}, {48, 49}}) {
            Checks.refusedWhole(x, "pulled", IllegalArgumentException.class, () -> pulled(x, told));
            Checks.refusedWhole(x, "who", IllegalArgumentException.class, () -> who(x, told));
            Checks.refusedWhole(x, "listen", IllegalArgumentException.class, () -> listen(x, told));
            Checks.due("it is no text, of which a fault would be told", x.fault(), 4);
        }
        Checks.due("30 is an HOUR", pulled(x, 30, 0, 0, 1), 3);
    }
}

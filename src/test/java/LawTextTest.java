/** The texts of THE LAW: its LINES, conditions and sums, SOUNDS and LETS OUT, and what of a wrong text is the first wrong byte. */
public final class LawTextTest extends PromiseCase {
    private static final String TWELVE = "guess 0;tell 1;hush 0;guess 1;guess 2;guess 3;guess 4;guess 5;guess 6;guess 7;guess 8;guess 9";

    public static void main(String[] args) {
        lines();
        kinds();
        alls();
        atoms();
        sums();
        comparisons();
        numbers();
        oneAndOther();
        oneAndOtherAtTheirBounds();
        rang();
        soundsBy();
        letsOutBy();
        words();
        blanks();
        noLine();
        sixDeep();
        sixDeepSideBySide();
        wrongBytes();
        wrongConditions();
        moreMustCome();
        nothingStays();
        promise5();
        Checks.finish("LawTextTest");
    }

    private static void lines() {
        Doc.says("THE LAW (a text, in place of the one before): LINE { ; LINE }, at most 12:");
        TwinRopes x = Checks.town("person at 0;person at 0");
        Checks.due("no text", x.count(2), -1);
        Checks.due("one", Checks.tellLaw(x, "guess 3"), 1);
        Checks.due("it holds", x.sounds(0, 1), 3);
        Checks.due("two", Checks.tellLaw(x, "guess 4;guess 5"), 2);
        Checks.due("in place of the one before", x.sounds(0, 1), 9);
        Checks.due("twelve", Checks.tellLaw(x, TWELVE), 12);
        Checks.due("all hold", x.sounds(0, 1), 45);
        Checks.due("twelve lines", x.count(2), 12);
        Checks.wrongLaw(x, TWELVE + ";^guess 1");
        Checks.wrongLaw(x, TWELVE + " ; ^bell");
        Checks.wrongLaw(x, TWELVE + ";^;");
        Checks.wrongLaw(x, TWELVE + ";^");
        Checks.wrongLaw(x, TWELVE + " ;  ^");
        Checks.wrongLaw(x, TWELVE + " ^tell 1");
        Checks.wrongLaw(x, "guess 1;^;guess 1");
        Checks.wrongLaw(x, "^;guess 1");
        Checks.wrongLaw(x, "guess 1;^");
        Checks.due("the one before yet", x.sounds(0, 1), 45);
        Checks.due("one again", Checks.tellLaw(x, "tell 9"), 1);
        Checks.due("nothing of the one before", x.sounds(0, 1), 0);
        for (int texts = 1; texts <= 30; texts++) {
            Checks.due("as many texts as one likes", Checks.tellLaw(x, "guess " + texts), 1);
            Checks.due("the latest", x.sounds(1, 0), texts);
        }
        Checks.due("none is a text of the town", x.count(1), 1);
    }

    private static void kinds() {
        Doc.says("guess N [ if C ] | hush N [ if C ] | tell N [ if C ].");
        TwinRopes x = Checks.town("person at 0 sworn;person at 0");
        Checks.tellLaw(x, "guess 9;tell 20;hush 1;guess 1 if sworn;tell 2 if sworn;hush 4 if not sworn");
        Checks.due("sounds(0, 1)", x.sounds(0, 1), 9 - 1 + 1);
        Checks.due("sounds(1, 0)", x.sounds(1, 0), 9 - 1 - 4);
        Checks.due("lets(0, 1)", x.lets(0, 1), 20 - 1 + 2);
        Checks.due("lets(1, 0)", x.lets(1, 0), 20 - 1 - 4);
        for (String text : new String[] {"guess^", "guess ^if near", "guess 1 ^near", "guess 1 if^", "guess 1 if ^;", "guess 1 if ^if near",
            "hush^", "hush ^x", "hush 1 if^", "tell^", "tell ^tell", "tell 1 ^1", "tell 1 if^", "^if near", "^near", "^1", "guess 1 ^and near",
            "guess 1 ^or near", "guess 1 ^not near"}) {
            Checks.wrongLaw(x, text);
        }
    }

    private static void alls() {
        Doc.says("C: ALL { or ALL }; ALL: ATOM { and ATOM };");
        TwinRopes x = Checks.town("person at 0;person at 0");
        String yes = "near";
        String no = "sworn";
        for (int values = 0; values < 8; values++) {
            String a = (values & 4) > 0 ? yes : no;
            String b = (values & 2) > 0 ? yes : no;
            String c = (values & 1) > 0 ? yes : no;
            boolean isA = (values & 4) > 0;
            boolean isB = (values & 2) > 0;
            boolean isC = (values & 1) > 0;
            both(x, a + " and " + b + " or " + c, isA && isB || isC);
            both(x, a + " or " + b + " and " + c, isA || isB && isC);
            both(x, a + " and (" + b + " or " + c + ")", isA && (isB || isC));
            both(x, "(" + a + " or " + b + ") and " + c, (isA || isB) && isC);
            both(x, a + " or " + b + " or " + c, isA || isB || isC);
            both(x, a + " and " + b + " and " + c, isA && isB && isC);
            both(x, "not " + a + " and " + b + " or not " + c, !isA && isB || !isC);
            both(x, a + " or not " + b + " and " + c, isA || !isB && isC);
            both(x, a + " and " + b + " or " + b + " and " + c + " or " + c + " and " + a, isA && isB || isB && isC || isC && isA);
        }
    }

    private static void both(TwinRopes x, String condition, boolean is) {
        holds(x, condition, is ? 1 : 0, is ? 1 : 0);
    }

    private static void atoms() {
        Doc.says("ATOM: not ATOM | ( C ) | sworn | near | rang | SUM < SUM | SUM > SUM.");
        TwinRopes x = Checks.town("person at 0 sworn;person at 0;person at 1");
        holds(x, "not sworn", 0, 1);
        holds(x, "not not sworn", 1, 0);
        holds(x, "(sworn)", 1, 0);
        holds(x, "not (sworn)", 0, 1);
        holds(x, "(not sworn)", 0, 1);
        holds(x, "sworn", 1, 0);
        holds(x, "near", 1, 1);
        holds(x, "rang", 1, 1);
        holds(x, "one < other", 1, 0);
        holds(x, "one > other", 0, 1);
        holds(x, "not one < other", 0, 1);
        holds(x, "not one > other and near", 1, 0);
        Checks.tellLaw(x, "guess 1 if near");
        Checks.due("not near", x.sounds(0, 2), 0);
    }

    private static void sums() {
        Doc.says("SUM: PART { + PART }; PART: NUMBER | one | other | guess | back | rung | hour | day.");
        TwinRopes x = Checks.town("person at 0;person at 0;rope 0 3 0;rope 1 3 1;hour 3;day 70");
        Checks.tellLaw(x, "");
        x.hours(13);
        x.guess(0, 1, 4);
        x.guess(1, 0, 7);
        // then of 0 and 1: one 0, other 1, guess 4, back 7, rung 2, hour 4, day 71
        Checks.due("rung", x.rung(0, 1) + 10 * x.count(3) + 1000 * x.count(4), 71042);
        part(x, "one", 0, 1);
        part(x, "other", 1, 0);
        part(x, "guess", 4, 7);
        part(x, "back", 7, 4);
        part(x, "rung", 2, 2);
        part(x, "hour", 4, 4);
        part(x, "day", 71, 71);
        part(x, "17", 17, 17);
        part(x, "one + other + guess + back + rung + hour + day + 0 + 17", 0 + 1 + 4 + 7 + 2 + 4 + 71 + 17, 0 + 1 + 4 + 7 + 2 + 4 + 71 + 17);
        part(x, "guess+guess+guess", 12, 21);
        part(x, "day+back+1", 79, 76);
    }

    /** What a sum is, for the ordered twos 0 1 and 1 0. */
    private static void part(TwinRopes x, String sum, int forFirst, int forSecond) {
        holds(x, sum + " < " + (forFirst + 1) + " and " + (forFirst + 2) + " > 1 + " + sum, 1, forSecond <= forFirst ? 1 : 0);
        holds(x, sum + " < " + forFirst, 0, forSecond < forFirst ? 1 : 0);
        holds(x, sum + " > " + forSecond, forFirst > forSecond ? 1 : 0, 0);
        holds(x, sum + " + 1 > " + forSecond, forFirst + 1 > forSecond ? 1 : 0, 1);
    }

    private static void comparisons() {
        TwinRopes x = Checks.town("person at 0;person at 0");
        for (int left = 0; left < 4; left++) {
            for (int right = 0; right < 4; right++) {
                both(x, left + "<" + right, left < right);
                both(x, left + ">" + right, left > right);
            }
        }
        both(x, "1 + 1 < 3", true);
        both(x, "1 + 1 < 2", false);
        both(x, "2 < 1 + 1", false);
        both(x, "1 < 1 + 1", true);
        both(x, "3 > 1 + 1 + 1", false);
        both(x, "4 > 1 + 1 + 1", true);
    }

    private static void numbers() {
        Doc.says("All numbers are of 1 to 3 digits (N 0 to 30).");
        TwinRopes x = Checks.town("person at 0;person at 0");
        Checks.tellLaw(x, "guess 0;tell 30");
        Checks.due("0 and 30", x.sounds(0, 1) + x.lets(0, 1), 30);
        Checks.tellLaw(x, "guess 030;tell 00");
        Checks.due("030 and 00", x.sounds(0, 1) + 100 * x.lets(0, 1), 30);
        Checks.tellLaw(x, "tell 2;hush 001");
        Checks.due("hush 001", x.lets(0, 1), 1);
        Checks.tellLaw(x, "hush 30;guess 000");
        Checks.due("hush 30", x.sounds(0, 1), -30);
        both(x, "999 > 998", true);
        both(x, "0 < 001", true);
        both(x, "000 < 0", false);
        both(x, "999 + 999 > 999 + 998", true);
        for (String text : new String[] {"guess ^31", "hush ^31", "tell ^31", "guess ^999", "guess ^0030", "hush ^0000", "tell ^1000",
            "guess 1 if ^1000 > 1", "guess 1 if 1 < ^1000", "guess 1 if 1 + ^1000 > 1", "guess 1 if ^0001 > 0", "guess 1 if 1 > 0 + ^0000",
            "tell ^-1", "tell ^4294967297", "guess 1 if ^4294967297 > 0"}) {
            Checks.wrongLaw(x, text);
        }
    }

    private static void oneAndOther() {
        Doc.says("Of one and another one (an ordered two): guess: GUESS of the one of the other one; back: GUESS of the other one of the "
                + "one; rung: RUNG of both; sworn: the one is; near: both have the same HAUNT;");
        TwinRopes x = Checks.town("person at 0;person at 7 sworn;person at 7;guess 0 1 3;guess 1 0 8;doubt 9;rope 0 0 0;rope 1 0 1");
        holds(x, "guess > 2", 1, 1);
        holds(x, "guess > 3", 0, 1);
        holds(x, "back > 3", 1, 0);
        holds(x, "back < 4", 0, 1);
        holds(x, "sworn", 0, 1);
        holds(x, "near", 0, 0);
        holds(x, "rung > 0", 0, 0);
        Checks.tellLaw(x, "guess 1 if near;tell 5 if sworn");
        Checks.due("near(1, 2)", x.sounds(1, 2), 1);
        Checks.due("near(2, 1)", x.sounds(2, 1), 1);
        Checks.due("who meets and is sworn", x.lets(1, 2) * 10 + x.lets(2, 1), 50);
        x.hours(1);
        holds(x, "rung > 0", 1, 1);
        Checks.due("of both only", x.sounds(0, 2) + x.sounds(2, 1), 0);
        x.move(0, 7);
        holds(x, "near", 1, 1);
        x.swear(1, false);
        x.swear(0, true);
        holds(x, "sworn", 1, 0);
    }

    private static void oneAndOtherAtTheirBounds() {
        TwinRopes x = Checks.town(EIGHT, "day 999;hour 11;guess 7 0 9;guess 0 7 0");
        Checks.tellLaw(x, "guess 1 if one > 6 and other < 1;guess 2 if one < 1 and other > 6;guess 4 if guess > 8;guess 8 if back > 8;"
                + "guess 16 if day > 998 and hour > 10");
        Checks.due("7 of 0", x.sounds(7, 0), 1 + 4 + 16);
        Checks.due("0 of 7", x.sounds(0, 7), 2 + 8 + 16);
        Checks.due("6 of 1", x.sounds(6, 1), 16);
    }

    private static void rang() {
        Doc.says("rang: the TONE of both, as they pull, is 4 (as they meet: never).");
        TwinRopes x = Checks.town("person at 0 roams 100;person at 0 roams 100");
        Checks.tellLaw(x, "guess 1 if rang;guess 2 if not rang;tell 4 if rang;tell 8 if not rang;hush 16 if rang;hush 30 if not not rang");
        Checks.due("as they pull and it rings", x.sounds(0, 1), 1 - 16 - 30);
        Checks.due("as they meet", x.lets(0, 1), 8);
        x.guess(1, 0, 5);
        Checks.due("as it is cracked", x.sounds(0, 1), 2);
        x.guess(1, 0, 9);
        Checks.due("as it is dumb", x.sounds(1, 0), 2);
        Checks.due("as they meet then", x.lets(1, 0), 8);
        x.forget(0);
        Checks.tellLaw(x, "tell 2 if rang;tell 3 if not rang");
        x.hours(12);
        Checks.due("they met, and never does it ring", x.guessed(0, 1) * 10 + x.guessed(1, 0), 33);
        x.rope(0, 0, 0);
        x.rope(1, 0, 1);
        Checks.tellLaw(x, "guess 5 if rang");
        x.hours(1);
        Checks.due("they pulled, and it rang", x.guessed(0, 1) * 10 + x.guessed(1, 0), 88);
    }

    private static void soundsBy() {
        Doc.says("SOUNDS: 1 (without a text), else the sum of N of all guess LINES that hold, less that of all hush LINES.");
        TwinRopes x = Checks.town("person at 0 sworn;person at 0");
        Checks.due("without a text", x.sounds(0, 1) * 10 + x.sounds(1, 0), 11);
        Checks.tellLaw(x, "");
        Checks.due("by a text without a line", x.sounds(0, 1), 0);
        Checks.tellLaw(x, "tell 9");
        Checks.due("by tell lines alone", x.sounds(0, 1), 0);
        Checks.tellLaw(x, "guess 30;guess 30;guess 30;guess 30;guess 30;guess 30;guess 30;guess 30;guess 30;guess 30;guess 30;guess 30");
        Checks.due("at most", x.sounds(0, 1), 360);
        Checks.tellLaw(x, "hush 30;hush 30;hush 30;hush 30;hush 30;hush 30;hush 30;hush 30;hush 30;hush 30;hush 30;hush 30");
        Checks.due("at least", x.sounds(0, 1), -360);
        Checks.tellLaw(x, "hush 1 if sworn;guess 5 if sworn;guess 7;hush 2");
        Checks.due("of those that hold", x.sounds(0, 1), 12 - 3);
        Checks.due("of those that hold for the other one", x.sounds(1, 0), 7 - 2);
        Checks.tellLaw(x, "guess 5;hush 5");
        Checks.due("nothing is left", x.sounds(0, 1), 0);
        x.rope(0, 0, 0);
        x.rope(1, 0, 1);
        Checks.tellLaw(x, "tell 30");
        x.hours(1);
        Checks.due("nothing is heard by tell lines", x.count(9), 0);
        Doc.promise(10, "What it SOUNDS to the first one of the other one, if both pulled now. IllegalArgumentException: both are one.");
        badTwo(x, "sounds", x::sounds);
    }

    private static void letsOutBy() {
        Doc.says("LETS OUT, as they meet: 2 (without a text), else the sum of N of all tell LINES that hold, less that of all hush LINES.");
        TwinRopes x = Checks.town("person at 0 sworn;person at 7");
        Checks.due("without a text, near or not", x.lets(0, 1) * 10 + x.lets(1, 0), 22);
        Checks.tellLaw(x, "");
        Checks.due("by a text without a line", x.lets(0, 1), 0);
        Checks.tellLaw(x, "guess 9");
        Checks.due("by guess lines alone", x.lets(0, 1), 0);
        Checks.tellLaw(x, "tell 30;tell 30;tell 30;tell 30;tell 30;tell 30;tell 30;tell 30;tell 30;tell 30;tell 30;tell 30");
        Checks.due("at most", x.lets(0, 1), 360);
        Checks.tellLaw(x, "hush 30;hush 30;hush 30;hush 30;hush 30;hush 30;hush 30;hush 30;hush 30;hush 30;hush 30;hush 30");
        Checks.due("at least", x.lets(0, 1), -360);
        Checks.tellLaw(x, "hush 1 if sworn;tell 5 if sworn;tell 7;hush 2;tell 20 if near");
        Checks.due("of those that hold", x.lets(0, 1), 12 - 3);
        Checks.due("of those that hold for the other one", x.lets(1, 0), 7 - 2);
        x.move(0, 7);
        Checks.due("near", x.lets(1, 0), 27 - 2);
        Doc.promise(11, "What it LETS OUT to the first one of the other one, if both met now (near or not). "
                + "IllegalArgumentException: both are one.");
        badTwo(x, "lets", x::lets);
    }

    private static void words() {
        Doc.says("Words are as long as a to z go on;");
        TwinRopes x = Checks.town("person at 0;person at 0");
        Checks.due("words end at numbers and signs", Checks.tellLaw(x, "guess1if(near)and(1<2)or(rung+1>guess)"), 1);
        Checks.due("and numbers at words", Checks.tellLaw(x, "guess 1if 1<2and 3>2or near;tell2if near"), 2);
        Checks.due("in a town, too", Checks.tellTown(x, "person at1roams2pay3sworn;guess0 1 4;day5"), 2);
        Checks.due("its day", x.count(4), 5);
        for (String text : new String[] {"^guesss 1", "^gues 1", "guess 1 ^ifnear", "guess 1 if ^nearand near", "guess 1 if near ^andnear",
            "guess 1 if ^notnear", "guess 1 if near ^ornear", "guess 1 if ^ones > 1", "guess 1 if ^on > 1", "^Guess 1",
            "guess 1 if ^n ear", "guess 1 if ^nea r", "guess 1 if near^_", "guess 1 if ^{", "guess 1 if near^`",
            "guess 1 if ^oneone > 1", "guess 1 if one + ^onother > 1"}) {
            Checks.wrongLaw(x, text);
        }
    }

    private static void blanks() {
        Doc.says("between all there may be blanks (32), also ahead and behind.");
        TwinRopes x = Checks.town("person at 0;person at 0");
        Checks.due("many", Checks.tellLaw(x, "   guess   7   if   (   not   near   )   or   1   +   1   >   1   ;   tell   3   "), 2);
        Checks.due("they hold", x.sounds(0, 1) * 10 + x.lets(0, 1), 73);
        Checks.due("none", Checks.tellLaw(x, "guess6if(not near)or 1+1>1;tell4"), 2);
        Checks.due("they hold", x.sounds(0, 1) * 10 + x.lets(0, 1), 64);
        Checks.due("in a town, too", Checks.tellTown(x, "   day    12   ;   hour   3   "), 2);
        for (char sign : new char[] {0, 9, 10, 13, 31, 33, 127, 160, 255}) {
            Checks.wrongLaw(x, "guess^" + sign + "1");
            Checks.wrongLaw(x, "^" + sign + "guess 1");
            Checks.wrongLaw(x, "guess 1^" + sign);
            Checks.wrongTown(x, "day^" + sign + "1");
            Checks.wrongTown(x, "^" + sign);
            Checks.wrongTown(x, "day 1^" + sign);
        }
    }

    private static void noLine() {
        Doc.says("A text that is empty, or blanks alone, has no LINE.");
        TwinRopes x = Checks.town("person at 0;person at 0");
        String before = Checks.seen(x);
        Checks.due("an empty law", Checks.tellLaw(x, ""), 0);
        Checks.due("no fault", x.fault(), -1);
        Checks.due("no lines", x.count(2), 0);
        Checks.due("a law of one blank", Checks.tellLaw(x, " "), 0);
        Checks.due("a law of 400 blanks", Checks.tellLaw(x, " ".repeat(400)), 0);
        Checks.due("no fault", x.fault(), -1);
        TwinRopes y = Checks.town("person at 0;person at 0");
        Checks.due("an empty text", Checks.tellTown(y, ""), 2);
        Checks.due("a text of 400 blanks", Checks.tellTown(y, " ".repeat(400)), 3);
        Checks.due("nothing else changed", Checks.seen(y), before.replaceFirst("^2 1 ", "2 3 "));
        Checks.wrongLaw(x, "^;");
        Checks.wrongLaw(x, "  ^;  ");
        Checks.wrongTown(x, "  ^;");
    }

    private static void sixDeep() {
        Doc.says("( and not within one another at most 6 deep.");
        Doc.says("the ( or not that is a 7th one deep;");
        TwinRopes x = Checks.town("person at 0;person at 0");
        for (int kinds = 0; kinds < 64; kinds++) {
            StringBuilder open = new StringBuilder("guess 1 if ");
            StringBuilder close = new StringBuilder();
            for (int deep = 0; deep < 6; deep++) {
                boolean isNot = (kinds >> deep & 1) > 0;
                open.append(isNot ? "not " : "(");
                close.append(isNot ? "" : ")");
            }
            Checks.due("six deep: " + open, Checks.tellLaw(x, open + "near" + close), 1);
            Checks.due("it holds", x.sounds(0, 1), 1 - Integer.bitCount(kinds) % 2);
            Checks.wrongLaw(x, open + "^(near)" + close);
            Checks.wrongLaw(x, open + "^not near" + close);
            if ((kinds & 32) == 0) {
                Checks.wrongLaw(x, open + "near and ^not near" + close);
                Checks.wrongLaw(x, open + "near or ^(near)" + close);
            } else {
                Checks.due("not is of one ATOM", Checks.tellLaw(x, open + "near and not near" + close), 1);
            }
        }
    }

    private static void sixDeepSideBySide() {
        TwinRopes x = Checks.town("person at 0;person at 0");
        both(x, "(((((near))))) and not not not not not not near and ((((((near))))))", true);
        both(x, "(((((not near) and not near) or not near) or not near) or near)", true);
        both(x, "(((((near and (near) and not sworn and (near))))))", true);
        both(x, "not(not(not(sworn)and not(near)))", false);
        both(x, "not(not(not(sworn)and near))and not(not(near))", true);
        Checks.wrongLaw(x, "guess 1 if not(not(not(sworn)and not(^not(near))))");
        Checks.wrongLaw(x, "guess 1 if (((((near and (near and ^(near)))))))");
        Checks.wrongLaw(x, "guess 1 if (((((near and (near) and (near and ^not near))))))");
        Checks.wrongLaw(x, "guess 1 if not not not not not not ^not not near");
        Checks.wrongLaw(x, "guess 1 if near or ((((((near or ^(near)))))))");
        Checks.wrongLaw(x, "guess 1 if near;tell 1 if not (not (not (^(");
    }

    private static void wrongBytes() {
        TwinRopes x = Checks.town("person at 0;person at 0");
        for (String text : new String[] {"^\u0000", "^\u00ff", "^5", "^(near)", "^person at 1", "^day 1", "guess ^-1", "guess 1^.", "guess 1^,tell 1",
            "guess 1 ^guess 1", "tell 1;^tells 1", "tell 1;tell ^99", "tell 1;tell 1 ^x", "tell 1; ^; tell 1", "hush ^hush", "guess 5 ^)"}) {
            Checks.wrongLaw(x, text);
        }
    }

    private static void wrongConditions() {
        TwinRopes x = Checks.town("person at 0;person at 0");
        for (String condition : new String[] {"^and near", "^or near", "near and ^and near", "near or ^or near", "near ^near", "near ^not near",
            "^)", "(^)", "(near^;", "(near ^near)", "near^)", "(near)^)", "((near)^;", "near ^< 1", "near ^+ 1 > 1", "1 + ^near > 1", "1 < ^near",
            "1 < 2 ^< 3", "1 ^near", "1 ^and near", "1 ^;", "1 ^= 1", "1 <^= 1", "1 <^> 1", "^< 1", "^+ 1 > 0", "1 +^+ 1 > 0", "1 + ^> 0",
            "1 > ^> 0", "1 > 0 +^;", "(1^) > 0", "(1 + 1^) > 0", "1 > ^(0)", "not ^;", "not ^and near", "not 1 ^and near", "(not^)",
            "^roams > 1", "^pay > 1", "^doubt > 1", "^tell > 1", "^hush", "^if near", "^at", "near ^if", "rang ^> 1",
            "sworn ^+ 1 > 1", "not rang ^< 1", "one ^other", "1 ^2 > 1", "1 > 1 ^1", "1 > 1 + 1 ^day"}) {
            Checks.wrongLaw(x, "guess 1 if " + condition);
        }
    }

    private static void moreMustCome() {
        TwinRopes x = Checks.town("person at 0;person at 0");
        for (String text : new String[] {"guess^", "hush^", "tell ^", "guess 1 if^", "guess 1 if  ^", "guess 1 if not^", "guess 1 if (^",
            "guess 1 if near and^", "guess 1 if near or ^", "guess 1 if (near^", "guess 1 if (near  ^", "guess 1 if (near and^", "guess 1 if one^",
            "guess 1 if one <^", "guess 1 if one > ^", "guess 1 if one +^", "guess 1 if one < 1 +^", "guess 1 if not (not (near)^", "tell 1;^",
            "tell 1 ;  ^"}) {
            Checks.wrongLaw(x, text);
        }
        String full = " ".repeat(385) + "guess 1 if near";
        Checks.due("400 bytes", Checks.tellLaw(x, full), 1);
        Checks.wrongLaw(x, full.substring(3) + " or^");
        Checks.wrongLaw(x, full.substring(4) + " or ^");
        Checks.wrongLaw(x, full.substring(1) + "^)");
    }

    private static void nothingStays() {
        TwinRopes x = Checks.town("person at 0;person at 0");
        Checks.wrongLaw(x, "guess 7;tell 7;^");
        Checks.due("no law", x.count(2), -1);
        Checks.due("sounds without a text", x.sounds(0, 1), 1);
        Checks.tellLaw(x, "guess 3 if near;tell 4");
        x.move(1, 0);
        String before = Checks.seen(x);
        Checks.wrongLaw(x, "guess 7;tell 7 if near ^near");
        Checks.wrongLaw(x, "hush 9 if near or (near or 1^)");
        Checks.due("of a wrong law nothing stays", Checks.seen(x), before);
        Checks.tellLaw(x, "guess 5 if near");
        Checks.due("nor in the next law", x.sounds(0, 1) * 10 + x.lets(0, 1), 50);
        Checks.due("its lines", x.count(2), 1);
    }

    private static void promise5() {
        Doc.promise(5, "Uses the TAPE up: THE LAW: how many LINES. IllegalArgumentException: the text is wrong.");
        TwinRopes x = new TwinRopes();
        Checks.due("an empty tape is a law", x.law(), 0);
        Checks.tape(x, "tell 1;hush 2");
        Checks.due("two lines", x.law(), 2);
        Checks.due("the tape is empty", x.end(1), false);
        Checks.due("so that the next law is, too", x.law(), 0);
        Checks.tape(x, "tell 1;hush");
        Checks.noArgument("law", x::law);
        Checks.due("the tape of a wrong law is empty", x.end(1), false);
        Checks.due("the one before stands", x.count(2), 0);
        for (int lines = 1; lines <= 12; lines++) {
            Checks.due("lines", Checks.tellLaw(x, "tell 1;".repeat(lines - 1) + "tell 2"), lines);
        }
        Checks.wrongLaw(x, "tell 1;".repeat(12) + "^tell 2");
        Checks.due("twelve", x.count(2), 12);
    }
}

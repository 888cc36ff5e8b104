/** SPOILT and MEND: HOURS of THE PLAN that do not ring, and who at which rope would make them. */
public final class PlanTest extends PromiseCase {
    public static void main(String[] args) {
        spoilt();
        mend();
        mendByTone();
        mendTheLeast();
        mendOfNone();
        Checks.finish("PlanTest");
    }

    private static void spoilt() {
        Doc.says("SPOILT: HOURS of THE PLAN whose TONE is 1 to 3 now, as bits.");
        Doc.promise(38, "SPOILT, as bits.");
        TwinRopes x = Checks.town("person at 0;person at 0", ALL_HOURS_FIRST);
        Checks.due("one alone in each hour", x.spoilt(), 4095);
        for (int hour = 0; hour < 12; hour++) {
            x.rope(1, hour, 1);
            Checks.due("it rings", x.spoilt(), 4095 & ~((1 << hour + 1) - 1));
        }
        x.guess(0, 1, 5);
        Checks.due("cracked", x.spoilt(), 4095);
        x.guess(0, 1, 9);
        Checks.due("dumb", x.spoilt(), 4095);
        x.guess(0, 1, 4);
        Checks.due("as it is now", x.spoilt(), 0);
        x.off(0, 11);
        Checks.due("one alone", x.spoilt(), 2048);
        x.off(1, 11);
        Checks.due("nobody", x.spoilt(), 0);
        x.off(1, 0);
        Checks.due("hour 0", x.spoilt(), 1);
        Checks.due("nobody at all", new TwinRopes().spoilt(), 0);
    }

    private static void mend() {
        Doc.says("MEND of an HOUR that is SPOILT: a PERSON that is in neither LOFT in it, and a LOFT, so that with that PERSON put to that rope "
                + "(in place of whoever is there) its TONE would be 4: 2 times the PERSON and the LOFT: the least such;");
        Doc.promise(39, "MEND; NONE.");
        TwinRopes x = Checks.town(EIGHT, "rope 0 0 0;rope 1 11 0;rope 0 5 7;rope 1 5 6;guess 7 6 5");
        Checks.due("1 at loft 1, as loft 0 is taken", x.mend(0), 2 * 1 + 1);
        Checks.due("1 at loft 0, as loft 1 is taken", x.mend(11), 2 * 1);
        Checks.due("0 at loft 0, in place of 7", x.mend(5), 0);
        x.guess(0, 6, 5);
        Checks.due("0 at loft 1, in place of 6", x.mend(5), 1);
        x.guess(0, 7, 9);
        Checks.due("1 at loft 0", x.mend(5), 2);
        Checks.due("nothing is done", x.plan(0, 5) * 10 + x.plan(1, 5), 76);
        for (int person = 0; person < 6; person++) {
            x.guess(person, 6, 5);
            x.guess(7, person, 5);
        }
        Checks.due("nobody", x.mend(5), -1);
        x.guess(7, 5, 4);
        Checks.due("5 at loft 1", x.mend(5), 2 * 5 + 1);
        x.guess(5, 6, 4);
        Checks.due("5 at loft 0", x.mend(5), 2 * 5);
        badHour(x, "mend", x::mend);
    }

    private static void mendByTone() {
        TwinRopes x = Checks.town("person at 0;person at 0;person at 0;rope 0 3 0;rope 1 3 1;guess 0 1 9");
        Checks.due("dumb: 2 at loft 0", x.mend(3), 4);
        x.guess(0, 1, 5);
        Checks.due("cracked: 2 at loft 0", x.mend(3), 4);
        x.guess(2, 1, 5);
        Checks.due("2 at loft 1", x.mend(3), 5);
        x.guess(0, 2, 5);
        Checks.due("none", x.mend(3), -1);
        Checks.tellTown(x, "doubt 6");
        Checks.due("not SPOILT", x.mend(3), -1);
        x.guess(0, 1, 6);
        Checks.due("by DOUBT", x.mend(3), 4);
    }

    private static void mendTheLeast() {
        TwinRopes x = Checks.town(EIGHT, "rope 0 0 7");
        for (int person = 0; person < 6; person++) {
            x.guess(person, 7, 5);
        }
        Checks.due("6 at loft 1", x.mend(0), 2 * 6 + 1);
        x.change(0);
        Checks.due("6 at loft 0", x.mend(0), 2 * 6);
        x.rope(0, 0, 6);
        Checks.due("it rings", x.mend(0), -1);
        TwinRopes y = Checks.town(EIGHT, "rope 1 0 0");
        for (int person = 1; person < 7; person++) {
            y.guess(person, 0, 9);
        }
        Checks.due("7 at loft 0", y.mend(0), 2 * 7);
        y.change(0);
        Checks.due("7 at loft 1", y.mend(0), 2 * 7 + 1);
    }

    private static void mendOfNone() {
        Doc.says("none (also of an HOUR that is not SPOILT).");
        TwinRopes x = Checks.town("person at 0;person at 0;person at 0;rope 0 0 0;rope 1 0 1;rope 0 2 2");
        Checks.due("it rings", x.mend(0), -1);
        Checks.due("nobody is there", x.mend(1), -1);
        Checks.due("one is", x.mend(2), 1);
        Checks.due("of nobody", new TwinRopes().mend(0), -1);
        Checks.due("one alone has nobody", Checks.town("person at 0;rope 0 0 0").mend(0), -1);
        Checks.due("two who crack have nobody", Checks.town("person at 0;person at 0;guess 0 1 5;rope 0 0 0;rope 1 0 1").mend(0), -1);
        Checks.due("two, one of them alone", Checks.town("person at 0;person at 0;rope 1 0 1").mend(0), 0);
        Checks.due("two who crack, one of them alone", Checks.town("person at 0;person at 0;guess 0 1 5;rope 1 0 1").mend(0), -1);
    }
}

/** Promises 52 to 56: SEED, acts undone, THE IMAGE, counts. */
public final class BackTest extends PromiseCase {
    private static final String TWO = "person at 4 roams 100 pay 3;person at 4 roams 100 sworn;guess 0 1 2;rope 0 0 0;rope 1 0 1";

    public static void main(String[] args) {
        promise52();
        promise53EachAct();
        promise53Twelve();
        promise53Forgotten();
        promise54And55();
        promise56();
        Checks.finish("BackTest");
    }

    private static void promise52() {
        TwinRopes x = Checks.town("person at 4 roams 39;person at 4 roams 59;person at 4 roams 14");
        Checks.due("the first seed", x.seed(5), 1);
        Checks.due("the next", x.seed(-7), 5);
        Checks.due("any number", x.seed(Integer.MIN_VALUE), -7);
        Checks.due("the least", x.seed(Integer.MAX_VALUE), Integer.MIN_VALUE);
        Checks.due("the greatest", x.seed(1), Integer.MAX_VALUE);
        Checks.due("no act", x.count(11), 0);
        x.hours(12);
        Checks.due("three draws on", x.seed(-1), 662824084);
        x.hours(12);
        // from -1: the draws go round below 0, too, and are 0 at least
        Checks.due("three draws from -1", x.seed(0), draws(-1, 3));
        Checks.due("guesses", x.count(9) >= 0 && x.count(9) <= 54, true);
    }

    private static int draws(int seed, int times) {
        for (int i = 0; i < times; i++) {
            seed = (int) (1103515245L * seed + 12345L);
        }
        return seed;
    }

    /** An act to be done and undone. */
    interface Act {
        void on(TwinRopes x);
    }

    private static void undone(String name, Act act, boolean changes) {
        TwinRopes x = Checks.town(TWO);
        x.hours(13);
        String before = Checks.seenButActs(x);
        act.on(x);
        Checks.due(name + " is an act", x.count(11), 2);
        Checks.due(name + " changes something", !Checks.seenButActs(x).equals(before), changes);
        x.seed(12);
        Checks.due("undo of " + name, x.undo(), true);
        Checks.due("all is as ahead of " + name, Checks.seenButActs(x), before);
        Checks.due("acts then", x.count(11), 1);
        Checks.due("undo of the hours", x.undo(), true);
        Checks.due("no more", x.undo(), false);
    }

    private static void promise53EachAct() {
        undone("rope", x -> x.rope(0, 5, 1), true);
        undone("rope in place", x -> x.rope(0, 0, 0), false);
        undone("off", x -> x.off(1, 0), true);
        undone("change", x -> x.change(0), true);
        undone("change of nobody", x -> x.change(7), false);
        undone("swear", x -> x.swear(0, true), true);
        undone("swear the same", x -> x.swear(1, true), false);
        undone("move", x -> x.move(0, 5), true);
        undone("move to the same", x -> x.move(0, 4), false);
        undone("guess", x -> x.guess(1, 0, 7), true);
        undone("guess the same", x -> x.guess(0, 1, x.guessed(0, 1)), false);
        undone("forget", x -> x.forget(1), true);
        undone("hours", x -> x.hours(120), true);
    }

    private static void promise53Twelve() {
        TwinRopes x = Checks.town("person at 0");
        Checks.due("none yet", x.undo(), false);
        for (int i = 1; i <= 20; i++) {
            x.move(0, i % 8);
            Checks.due("acts remembered", x.count(11), Math.min(i, 12));
        }
        for (int i = 19; i >= 8; i--) {
            Checks.due("undo", x.undo(), true);
            Checks.due("haunt", x.person(0, 0), i % 8);
            Checks.due("acts left", x.count(11), i - 8);
        }
        Checks.due("twelve, no more", x.undo(), false);
        Checks.due("haunt stays", x.person(0, 0), 0);
        x.move(0, 3);
        x.move(0, 4);
        x.undo();
        x.move(0, 5);
        x.undo();
        Checks.due("what was undone is none", x.person(0, 0), 3);
        x.undo();
        Checks.due("nor is it again", x.person(0, 0), 0);
        Checks.due("no more", x.undo(), false);
    }

    private static void promise53Forgotten() {
        TwinRopes x = Checks.town(TWO);
        x.move(0, 1);
        x.image();
        Checks.due("an image forgets none", x.count(11), 1);
        Checks.tellTown(x, "");
        Checks.due("a text forgets all", x.undo(), false);
        x.move(0, 2);
        Checks.tellLaw(x, "tell 1");
        Checks.due("a law does", x.undo(), false);
        x.move(0, 3);
        x.back();
        Checks.due("going back does", x.undo(), false);
        Checks.due("as the image has it", x.person(0, 0), 1);
        // what is not of an act: the TAPE, fault(), THE IMAGE
        x.move(0, 4);
        x.image();
        Checks.wrongTown(x, "day x", 4);
        Checks.tape(x, "day 3");
        x.undo();
        Checks.due("fault stays", x.fault(), 4);
        Checks.due("the tape stays", x.end(5), true);
        Checks.due("the image stays", x.back(), true);
        Checks.due("the image's haunt", x.person(0, 0), 4);
        // the law stands, as a text forgets all acts
        x.hours(3);
        x.undo();
        Checks.due("law yet", x.count(2), -1);
    }

    private static void promise54And55() {
        TwinRopes x = Checks.town(TWO);
        Checks.due("none kept", x.back(), false);
        x.move(0, 6);
        Checks.due("nothing happened", x.count(11), 1);
        Checks.tellLaw(x, "guess 3;tell 1 if day > 0");
        x.hours(30);
        x.seed(99);
        String kept = Checks.seenButActs(x);
        x.image();
        Checks.tellTown(x, "person at 1;guess 2 0 4;doubt 2;hour 7;day 99;rope 0 6 2");
        Checks.tellLaw(x, "");
        x.hours(100);
        x.swear(0, true);
        x.off(0, 0);
        x.seed(3);
        Checks.due("back", x.back(), true);
        Checks.due("all is as it was kept", Checks.seenButActs(x), kept);
        x.forget(0);
        Checks.due("back again", x.back(), true);
        Checks.due("all is as it was kept", Checks.seenButActs(x), kept);
        x.move(0, 7);
        x.image();
        x.move(0, 0);
        x.back();
        Checks.due("the latest image counts", x.person(0, 0), 7);
        Checks.wrongLaw(x, "tax", 0);
        Checks.tape(x, "day 3");
        x.back();
        Checks.due("fault is not of the image", x.fault(), 0);
        Checks.due("nor is the tape", x.end(5), true);
        TwinRopes y = new TwinRopes();
        y.image();
        Checks.tellTown(y, TWO);
        Checks.tellLaw(y, "tell 5");
        Checks.due("back to nobody", y.back(), true);
        Checks.due("people", y.count(0), 0);
        Checks.due("law", y.count(2), -1);
        Checks.tellTown(y, "person at 1;person at 1");
        Checks.due("nobody is at the ropes", y.count(8), 0);
        Checks.due("nor guesses anything", y.count(9), 0);
        Checks.due("nor is sworn", y.count(7), 0);
        Checks.due("nor roams", y.person(0, 1) + y.person(0, 2), 0);
    }

    private static void promise56() {
        TwinRopes x = Checks.town(TWO, "person at 1;guess 2 0 9;guess 0 2 9;doubt 7;hour 3;day 8;rope 0 11 2");
        Checks.tellLaw(x, "guess 1;tell 0;hush 0");
        int[] want = {3, 2, 3, 3, 8, 7, 1, 2, 3, 20, 0, 0};
        for (int what = 0; what < 12; what++) {
            Checks.due("count(" + what + ")", x.count(what), want[what]);
        }
        x.guess(1, 2, 9);
        x.swear(2, true);
        x.hours(10);
        int[] then = {3, 2, 3, 1, 9, 7, 2, 6, 3, 31, 2, 3};
        for (int what = 0; what < 12; what++) {
            Checks.due("count(" + what + ") then", x.count(what), then[what]);
        }
        for (int what : new int[] {-1, 12, Integer.MIN_VALUE, Integer.MAX_VALUE}) {
            Checks.due("count(" + what + ")", x.count(what), -1);
        }
    }
}

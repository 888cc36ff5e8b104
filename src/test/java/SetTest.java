/** What is asked of sets of PEOPLE: CROWD, GO, CUT, HEADS, DEPTH, CIRCLE. */
public final class SetTest extends PromiseCase {
    public static void main(String[] args) {
        setsOfNone();
        crowd();
        go();
        cut();
        cutOfFew();
        heads();
        depth();
        depthAtTheBounds();
        circle();
        Checks.finish("SetTest");
    }

    /** Each of eight GUESSES so much of each lesser one. */
    private static TwinRopes guessing(int n) {
        TwinRopes x = Checks.town(EIGHT);
        for (int person = 0; person < 8; person++) {
            for (int other = 0; other < person; other++) {
                x.guess(person, other, n);
            }
        }
        return x;
    }

    private static void setsOfNone() {
        Doc.says("Sets are bits; of none they count for nothing.");
        TwinRopes nobody = new TwinRopes();
        Checks.due("crowd of nobody", nobody.crowd(), 0);
        Checks.due("go of nobody", nobody.go(), 0);
        Checks.due("cut of nobody", nobody.cut(false), 0);
        Checks.due("heads of nobody", nobody.heads(), 0);
        Checks.due("sworn ones of nobody", nobody.count(7), 0);
        Checks.due("spoilt hours of nobody", nobody.spoilt(), 0);
        Checks.due("who of nobody", nobody.pulled(true), 0);
        TwinRopes one = Checks.town("person at 0");
        Checks.due("near one alone", one.person(0, 8), 0);
        Checks.due("of whom one alone knows", one.person(0, 9), 0);
        Checks.due("when one alone is busy", one.person(0, 4), 0);
        Checks.due("depth of one alone", one.depth(0, 8), 0);
    }

    private static void crowd() {
        Doc.says("CROWD: of sets of PEOPLE the most of whom none KNOWS of another one of the set: of several the least as bits.");
        Doc.promise(28, "CROWD, as bits.");
        Checks.due("one", Checks.town("person at 0").crowd(), 1);
        Checks.due("two", Checks.town("person at 0;person at 0").crowd(), 3);
        Checks.due("two, the first knows", Checks.town("person at 0;person at 0;guess 0 1 9").crowd(), 1);
        Checks.due("two, the other one knows", Checks.town("person at 0;person at 0;guess 1 0 9").crowd(), 1);
        Checks.due("0 and 1 know: 0 and 2", Checks.town("person at 0;person at 0;person at 0;guess 0 1 9").crowd(), 0b101);
        Checks.due("eight", Checks.town(EIGHT).crowd(), 255);
        Checks.due("8 is not to know", guessing(8).crowd(), 255);
        TwinRopes x = guessing(9);
        Checks.due("all know", x.crowd(), 1);
        x.guess(7, 6, 8);
        Checks.due("but 6 and 7", x.crowd(), 0b11000000);
        x.guess(1, 0, 0);
        Checks.due("of two such sets the least", x.crowd(), 0b00000011);
        x.guess(7, 5, 0);
        x.guess(6, 5, 0);
        Checks.due("three", x.crowd(), 0b11100000);
    }

    private static void go() {
        Doc.says("GO: the fewest who must go so that nobody left KNOWS of anybody left: of several the least as bits.");
        Doc.promise(29, "GO, as bits.");
        Checks.due("one", Checks.town("person at 0").go(), 0);
        Checks.due("two", Checks.town("person at 0;person at 0").go(), 0);
        Checks.due("two, the first knows", Checks.town("person at 0;person at 0;guess 0 1 9").go(), 1);
        Checks.due("two, the other one knows", Checks.town("person at 0;person at 0;guess 1 0 9").go(), 1);
        Checks.due("0 and 1 know", Checks.town("person at 0;person at 0;person at 0;guess 0 1 9").go(), 1);
        Checks.due("1 and 2 know", Checks.town("person at 0;person at 0;person at 0;guess 1 2 9").go(), 0b010);
        Checks.due("eight", Checks.town(EIGHT).go(), 0);
        Checks.due("8 is not to know", guessing(8).go(), 0);
        TwinRopes x = guessing(9);
        Checks.due("all but 7", x.go(), 0b01111111);
        x.guess(1, 0, 8);
        Checks.due("all but 0 and 1", x.go(), 0b11111100);
        x.guess(7, 6, 0);
        Checks.due("of two such sets the least", x.go(), 0b00111111);
        x.forget(0);
        Checks.due("0 may stay", x.go(), 0b00111110);
    }

    private static void cut() {
        Doc.says("CUT: PEOPLE parted into the two LOFTS (all of them), so that pairs across whose TONE would be 4 now are the most: those of "
                + "LOFT 1, of several the least as bits; how many pairs.");
        Doc.promise(30, "CUT: those of LOFT 1, as bits (many false), or how many pairs.");
        cut(Checks.town(EIGHT), 0b00001111, 16);
        cut(guessing(4), 0b00001111, 16);
        cut(guessing(5), 0, 0);
        cut(guessing(9), 0, 0);
        TwinRopes x = guessing(5);
        x.guess(7, 6, 4);
        cut(x, 0b01000000, 1);
        x.guess(6, 7, 9);
        cut(x, 0, 0);
        x.guess(6, 7, 0);
        x.guess(7, 5, 0);
        x.guess(7, 0, 0);
        cut(x, 0b01100001, 3);
        x.guess(6, 5, 0);
        // 5, 6 and 7 ring with one another: two of these three pairs are across at most
        cut(x, 0b00100001, 3);
        Checks.tellTown(x, "doubt 6");
        cut(x, 0b00001111, 16);
    }

    private static void cutOfFew() {
        cut(new TwinRopes(), 0, 0);
        cut(Checks.town("person at 0"), 0, 0);
        cut(Checks.town("person at 0;person at 0"), 1, 1);
        cut(Checks.town("person at 0;person at 0;guess 1 0 5"), 0, 0);
        cut(Checks.town("person at 0;person at 0;person at 0"), 1, 2);
        cut(Checks.town("person at 0;person at 0;person at 0;guess 0 1 5"), 0b011, 2);
        cut(Checks.town("person at 0;person at 0;person at 0;guess 0 2 5"), 0b010, 2);
        cut(Checks.town("person at 0;person at 0;person at 0;guess 1 2 5"), 0b001, 2);
        cut(Checks.town("person at 0;person at 0;person at 0;guess 0 1 5;guess 0 2 5"), 0b010, 1);
        cut(Checks.town("person at 0;person at 0;person at 0;person at 0"), 0b0011, 4);
    }

    private static void cut(TwinRopes x, int set, int pairs) {
        Checks.due("cut", x.cut(false), set);
        Checks.due("pairs across", x.cut(true), pairs);
    }

    private static void heads() {
        Doc.says("HEADS: the fewest PEOPLE so that each other one is one of whom one of these GUESSES DOUBT at least: of several the least as "
                + "bits.");
        Doc.promise(31, "HEADS, as bits.");
        Checks.due("one", Checks.town("person at 0").heads(), 1);
        Checks.due("two", Checks.town("person at 0;person at 0").heads(), 3);
        Checks.due("the first guesses", Checks.town("person at 0;person at 0;guess 0 1 5").heads(), 1);
        Checks.due("the other one guesses", Checks.town("person at 0;person at 0;guess 1 0 5").heads(), 2);
        Checks.due("of both the least", Checks.town("person at 0;person at 0;guess 1 0 5;guess 0 1 9").heads(), 1);
        Checks.due("eight", Checks.town(EIGHT).heads(), 255);
        Checks.due("7 guesses all", guessing(5).heads(), 128);
        Checks.due("4 is below DOUBT", guessing(4).heads(), 255);
        Checks.due("9 is not", guessing(9).heads(), 128);
        TwinRopes x = guessing(5);
        x.guess(7, 0, 4);
        Checks.due("0 too", x.heads(), 0b10000001);
        x.guess(7, 6, 4);
        // 6 guesses all but 7, who is a head too
        Checks.due("6 and 7", x.heads(), 0b11000000);
        Checks.tellTown(x, "doubt 4");
        Checks.due("by DOUBT", x.heads(), 128);
        Checks.tellTown(x, "doubt 6");
        Checks.due("by DOUBT", x.heads(), 255);
        Checks.tellTown(x, "doubt 1");
        Checks.due("one of the heads may GUESS another one", Checks.town("person at 0;person at 0;person at 0;person at 0;guess 0 1 5;"
                + "guess 0 2 5;guess 1 3 5").heads(), 0b0011);
        Checks.due("and that one it", Checks.town("person at 0;person at 0;person at 0;person at 0;person at 0;person at 0;guess 1 2 9;"
                + "guess 2 1 9;guess 1 0 5;guess 1 4 5;guess 2 3 5;guess 2 5 5").heads(), 0b000110);
        Checks.due("1 is DOUBT", Checks.town("person at 0;person at 0;doubt 1;guess 1 0 1").heads(), 2);
    }

    private static void depth() {
        Doc.says("DEPTH of one by K (0 to 8) steps: those whom one comes to, each time from one to those of whom it GUESSES something (1 at "
                + "least), in K steps at most, as bits (without itself, but if one comes back to it).");
        Doc.promise(32, "DEPTH, as bits. IllegalArgumentException: K is none.");
        TwinRopes x = Checks.town(EIGHT);
        Checks.due("nobody", x.depth(0, 8), 0);
        for (int person = 0; person < 7; person++) {
            x.guess(person, person + 1, person % 2 == 0 ? 1 : 9);
        }
        for (int k = 0; k <= 8; k++) {
            Checks.due("depth(0, " + k + ")", x.depth(0, k), (1 << Math.min(k + 1, 8)) - 1 - 1);
            Checks.due("depth(7, " + k + ")", x.depth(7, k), 0);
            Checks.due("depth(5, " + k + ")", x.depth(5, k), new int[] {0, 64, 192}[Math.min(k, 2)]);
        }
        x.guess(7, 0, 1);
        for (int k = 0; k <= 8; k++) {
            Checks.due("depth(0, " + k + ") in a circle", x.depth(0, k), (1 << k + 1) - 2 & 255 | (k == 8 ? 1 : 0));
        }
        x.guess(3, 4, 0);
        Checks.due("cut off", x.depth(0, 8), 0b1110);
    }

    private static void depthAtTheBounds() {
        TwinRopes x = Checks.town("person at 0;person at 0;guess 0 1 1");
        int[] none = {0, 0, 0, 0, 0, 0, 0, 0, 0};
        for (int k = 0; k < none.length; k++) {
            Checks.due("depth(1, " + k + ")", x.depth(1, k), none[k]);
            Checks.due("depth(0, " + k + ")", x.depth(0, k), k == 0 ? 0 : 2);
        }
        x.guess(1, 0, 1);
        Checks.due("one step", x.depth(0, 1), 0b10);
        Checks.due("two steps lead back", x.depth(0, 2), 0b11);
        for (int k = 3; k <= 8; k++) {
            Checks.due("those of fewer steps, too, in " + k, x.depth(0, k), 0b11);
        }
        Checks.due("no step", x.depth(0, 0), 0);
        badNumber(x, "depth", 0, 8, k -> x.depth(0, k));
        badPerson(x, "depth", person -> x.depth(person, 0));
        badPerson(x, "depth by none", person -> x.depth(person, 9));
        badPerson(x, "depth by none", person -> x.depth(person, -1));
    }

    private static void circle() {
        Doc.says("CIRCLE of one: in how few such steps one comes from it back to it; none.");
        Doc.promise(33, "CIRCLE; NONE.");
        TwinRopes x = Checks.town(EIGHT);
        Checks.due("nobody guesses", x.circle(0), -1);
        Checks.due("one alone", Checks.town("person at 0").circle(0), -1);
        for (int last = 7; last > 0; last--) {
            for (int person = 0; person < 8; person++) {
                x.forget(person);
            }
            for (int person = 0; person < last; person++) {
                x.guess(person, person + 1, 1);
            }
            Checks.due("no way back", x.circle(0), -1);
            x.guess(last, 0, 1);
            Checks.due("circle of " + (last + 1), x.circle(0), last + 1);
            Checks.due("from its end", x.circle(last), last + 1);
            Checks.due("who is not in it", last < 7 ? x.circle(7) : -1, -1);
        }
        TwinRopes y = Checks.town("person at 0;person at 0;person at 0;guess 0 1 1;guess 1 2 1;guess 2 0 1;guess 2 1 9");
        Checks.due("the shorter way", y.circle(1), 2);
        Checks.due("the only way", y.circle(0), 3);
        y.guess(1, 2, 0);
        Checks.due("none then", y.circle(0), -1);
        badPerson(y, "circle", y::circle);
    }
}

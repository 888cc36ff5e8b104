import java.math.BigInteger;

/** ODDS of meeting, and RESTS of two who suspect. */
public final class ChanceTest extends PromiseCase {
    public static void main(String[] args) {
        odds();
        oddsOfAll();
        oddsNotNear();
        promise44();
        rests();
        restsAtTheBounds();
        restsByDoubt();
        restsByPay();
        Checks.finish("ChanceTest");
    }

    private static void odds() {
        Doc.says("ODDS of two, N DAYS (0 to 3) and K (0 to 3): that they meet on K of them at least (near, both OUT, by what each ROAMS; each "
                + "DAY alike; never, if they are not near), in 10000, rounded down.");
        TwinRopes x = Checks.town("person at 0 roams 100;person at 0 roams 50;person at 0 roams 99;person at 0 roams 1;person at 0");
        int[][] want = {{10000, 0, 0, 0}, {10000, 5000, 0, 0}, {10000, 7500, 2500, 0}, {10000, 8750, 5000, 1250}};
        for (int n = 0; n <= 3; n++) {
            for (int k = 0; k <= 3; k++) {
                Checks.due("odds of a half", x.odds(0, 1, n, k), want[n][k]);
                Checks.due("odds of a half, the other way", x.odds(1, 0, n, k), want[n][k]);
                Checks.due("odds of who never roams", x.odds(0, 4, n, k), k == 0 ? 10000 : 0);
            }
        }
        // 99 times 1 is 99 in 10000: in two days 1 - 0.9901 * 0.9901 = 0.01970199, twice 0.00009801
        Checks.due("once in one", x.odds(2, 3, 1, 1), 99);
        Checks.due("once in two", x.odds(2, 3, 2, 1), 197);
        Checks.due("twice in two", x.odds(2, 3, 2, 2), 0);
        Checks.due("once in three: 0.029404940301", x.odds(2, 3, 3, 1), 294);
        Checks.due("twice in three: 0.0002920896", x.odds(2, 3, 3, 2), 2);
        // 99 times 100: in three days 1 - 0.01 * 0.01 * 0.01
        Checks.due("once in three: 0.999999", x.odds(0, 2, 3, 1), 9999);
        Checks.due("thrice in three: 0.970299", x.odds(0, 2, 3, 3), 9702);
    }

    private static void oddsOfAll() {
        for (int roams : new int[] {0, 1, 33, 50, 67, 99, 100}) {
            for (int others : new int[] {0, 1, 7, 50, 99, 100}) {
                TwinRopes x = Checks.town("person at 7 roams " + roams + ";person at 7 roams " + others);
                for (int n = 0; n <= 3; n++) {
                    for (int k = 0; k <= 3; k++) {
                        Checks.due("odds of " + roams + ", " + others, x.odds(0, 1, n, k), inTenThousand(roams * others, n, k));
                    }
                }
            }
        }
    }

    private static int inTenThousand(int meets, int n, int k) {
        int[] ways = n == 0 ? new int[] {1} : n == 1 ? new int[] {1, 1} : n == 2 ? new int[] {1, 2, 1} : new int[] {1, 3, 3, 1};
        BigInteger sum = BigInteger.ZERO;
        for (int times = k; times <= n; times++) {
            sum = sum.add(BigInteger.valueOf(meets).pow(times).multiply(BigInteger.valueOf(10000 - meets).pow(n - times))
                    .multiply(BigInteger.valueOf(ways[times])));
        }
        return sum.multiply(BigInteger.valueOf(10000)).divide(BigInteger.valueOf(10000).pow(n)).intValue();
    }

    private static void oddsNotNear() {
        TwinRopes x = Checks.town("person at 0 roams 100;person at 1 roams 100");
        for (int n = 0; n <= 3; n++) {
            for (int k = 0; k <= 3; k++) {
                Checks.due("not near", x.odds(0, 1, n, k), k == 0 ? 10000 : 0);
            }
        }
        x.move(1, 0);
        Checks.due("near", x.odds(0, 1, 3, 3), 10000);
        Checks.due("more than days", x.odds(0, 1, 2, 3), 0);
    }

    private static void promise44() {
        Doc.promise(44, "ODDS. IllegalArgumentException: both are one, or N or K are none.");
        TwinRopes x = Checks.town(EIGHT_NEAR);
        badTwo(x, "odds", (person, other) -> x.odds(person, other, 0, 0));
        badTwo(x, "odds of none", (person, other) -> x.odds(person, other, -1, 4));
        for (int most : new int[] {0, 3}) {
            badNumber(x, "odds of days", 0, 3, n -> x.odds(0, 7, n, most));
            badNumber(x, "odds of times", 0, 3, k -> x.odds(0, 7, most, k));
        }
        Checks.due("SEED stays", x.seed(1), 1);
    }

    private static void rests() {
        Doc.says("RESTS of two who suspect: each of them pulls (0) or stays away (1), unseen: both pull: each has its PAY, less 2 times what it "
                + "GUESSES of the other one; one who pulls alone has less 3; who stays away has 1, if it GUESSES DOUBT at least of the other "
                + "one, else 0: choices (2 times the first one's and the second one's) from which neither would have more by its other one: "
                + "as bits.");
        Doc.promise(46, "RESTS, as bits. IllegalArgumentException: both are one.");
        TwinRopes x = Checks.town("person at 0 pay 7;person at 0 pay 9");
        Checks.due("both pull, or both stay away", x.rests(0, 1), 0b1001);
        x.guess(0, 1, 3);
        Checks.due("7 - 6 is more than 0", x.rests(0, 1), 0b1001);
        x.guess(0, 1, 4);
        Checks.due("7 - 8 is less than 0", x.rests(0, 1), 0b1000);
        Checks.due("the other way", x.rests(1, 0), 0b1000);
        x.guess(0, 1, 0);
        x.guess(1, 0, 4);
        Checks.due("9 - 8 is more than 0", x.rests(0, 1), 0b1001);
        x.guess(1, 0, 5);
        Checks.due("9 - 10 is less than 1", x.rests(0, 1), 0b1000);
        badTwo(x, "rests", x::rests);
    }

    private static void restsAtTheBounds() {
        TwinRopes x = Checks.town("person at 0;person at 0;person at 0 pay 99");
        Checks.due("0 is no less than 0", x.rests(0, 1), 0b1001);
        x.guess(0, 1, 1);
        Checks.due("-2 is less than 0", x.rests(0, 1), 0b1000);
        x.guess(0, 1, 9);
        x.guess(1, 0, 9);
        Checks.due("-18 is less than 1", x.rests(0, 1), 0b1000);
        x.guess(2, 0, 9);
        Checks.due("99 - 18 is more than 1", x.rests(2, 0), 0b1001);
        Checks.tellTown(x, "doubt 1");
        Checks.due("by DOUBT 1, too", x.rests(2, 0), 0b1001);
        x.guess(0, 2, 1);
        Checks.due("-2 is less than 1", x.rests(2, 0), 0b1000);
    }

    private static void restsByDoubt() {
        for (int doubt = 1; doubt <= 9; doubt++) {
            for (int guess = 0; guess <= 9; guess++) {
                int gain = guess >= doubt ? 1 : 0;
                TwinRopes x = Checks.town("person at 0 pay " + (2 * guess + gain) + ";person at 0 pay " + Math.max(0, 2 * guess + gain - 1)
                        + ";person at 0;doubt " + doubt);
                x.guess(0, 2, guess);
                x.guess(1, 2, guess);
                Checks.due("as much as one has who stays away", x.rests(0, 2), 0b1001);
                Checks.due("less than that", x.rests(2, 1), 2 * guess + gain > 0 ? 0b1000 : 0b1001);
                Checks.due("less than that, the other way", x.rests(1, 2), 2 * guess + gain > 0 ? 0b1000 : 0b1001);
            }
        }
    }

    private static void restsByPay() {
        TwinRopes x = Checks.town("person at 0 pay 4;person at 0 pay 3;person at 0 pay 2");
        // who pulls alone has less 3, whatever its PAY is: that is never more than to stay away
        Checks.due("PAY 4 and 3", x.rests(0, 1), 0b1001);
        Checks.due("PAY 2 and 4", x.rests(2, 0), 0b1001);
        x.guess(2, 0, 2);
        Checks.due("2 - 4", x.rests(2, 0), 0b1000);
        Checks.due("2 - 4, the other way", x.rests(0, 2), 0b1000);
    }
}

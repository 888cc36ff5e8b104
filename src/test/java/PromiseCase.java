/** What several test classes try in the same way: persons, twos, hours and numbers that are none. */
class PromiseCase {
    static final String EIGHT = "person at 0;person at 1;person at 2;person at 3;person at 4;person at 5;person at 6;person at 7";
    static final String EIGHT_NEAR = "person at 3;person at 3;person at 3;person at 3;person at 3;person at 3;person at 3;person at 3";
    /** Two who are at both ropes in each HOUR. */
    static final String ALL_HOURS_FIRST = "rope 0 0 0;rope 0 1 0;rope 0 2 0;rope 0 3 0;rope 0 4 0;rope 0 5 0;rope 0 6 0;"
            + "rope 0 7 0;rope 0 8 0;rope 0 9 0;rope 0 10 0;rope 0 11 0";
    static final String ALL_HOURS_SECOND = "rope 1 0 1;rope 1 1 1;rope 1 2 1;rope 1 3 1;rope 1 4 1;rope 1 5 1;rope 1 6 1;"
            + "rope 1 7 1;rope 1 8 1;rope 1 9 1;rope 1 10 1;rope 1 11 1";

    /** A call of one number. */
    interface One {
        Object of(int n);
    }

    /** A call of two numbers. */
    interface Two {
        Object of(int a, int b);
    }

    static void badPerson(TwinRopes x, String name, One call) {
        for (int person : new int[] {-1, x.count(0), 8, Integer.MIN_VALUE, Integer.MAX_VALUE}) {
            Checks.refusedWhole(x, name + " of " + person, IndexOutOfBoundsException.class, () -> call.of(person));
        }
    }

    static void badTwo(TwinRopes x, String name, Two call) {
        badPerson(x, name + " first", person -> call.of(person, 0));
        badPerson(x, name + " second", person -> call.of(0, person));
        badPerson(x, name + " twice", person -> call.of(person, person));
        for (int person = 0; person < x.count(0); person++) {
            int one = person;
            Checks.refusedWhole(x, name + " both " + one, IllegalArgumentException.class, () -> call.of(one, one));
        }
    }

    static void badHour(TwinRopes x, String name, One call) {
        for (int hour : new int[] {-1, 12, Integer.MIN_VALUE, Integer.MAX_VALUE}) {
            Checks.refusedWhole(x, name + " of " + hour, IndexOutOfBoundsException.class, () -> call.of(hour));
        }
    }

    static void badLoft(TwinRopes x, String name, One call) {
        for (int loft : new int[] {-1, 2, Integer.MIN_VALUE, Integer.MAX_VALUE}) {
            Checks.refusedWhole(x, name + " of loft " + loft, IndexOutOfBoundsException.class, () -> call.of(loft));
        }
    }

    /** A law that adds 1, if the condition holds, for the ordered twos 0 1 and 1 0. */
    static void holds(TwinRopes x, String condition, int forFirst, int forSecond) {
        Checks.due("law of " + condition, Checks.tellLaw(x, "guess 1 if " + condition + ";tell 1 if " + condition), 2);
        Checks.due("sounds(0, 1) if " + condition, x.sounds(0, 1), forFirst);
        Checks.due("sounds(1, 0) if " + condition, x.sounds(1, 0), forSecond);
    }

    static void badNumber(TwinRopes x, String name, int least, int greatest, One call) {
        for (int n : new int[] {least - 1, greatest + 1, Integer.MIN_VALUE, Integer.MAX_VALUE}) {
            Checks.refusedWhole(x, name + " of " + n, IllegalArgumentException.class, () -> call.of(n));
        }
    }
}

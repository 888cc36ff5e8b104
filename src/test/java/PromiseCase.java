/** What several test classes try in the same way: persons, twos, hours and numbers that are none. */
class PromiseCase {
    /** A call of one number. */
    interface One {
        Object of(int n);
    }

    /** A call of two numbers. */
    interface Two {
        Object of(int a, int b);
    }

    static void badPerson(TwinRopes x, String name, One call) {
        for (int person : new int[] {-1, x.count(0), 8, Integer.MIN_VALUE, Integer.MAX_VALUE}) {
            Checks.refusedWhole(x, name + " of " + person, IndexOutOfBoundsException.class, () -> call.of(person));
        }
    }

    static void badTwo(TwinRopes x, String name, Two call) {
        badPerson(x, name + " first", person -> call.of(person, 0));
        badPerson(x, name + " second", person -> call.of(0, person));
        badPerson(x, name + " twice", person -> call.of(person, person));
        for (int person = 0; person < x.count(0); person++) {
            int one = person;
            Checks.refusedWhole(x, name + " both " + one, IllegalArgumentException.class, () -> call.of(one, one));
        }
    }

    static void badHour(TwinRopes x, String name, One call) {
        for (int hour : new int[] {-1, 12, Integer.MIN_VALUE, Integer.MAX_VALUE}) {
            Checks.refusedWhole(x, name + " of " + hour, IndexOutOfBoundsException.class, () -> call.of(hour));
        }
    }

    static void badNumber(TwinRopes x, String name, int least, int greatest, One call) {
        for (int n : new int[] {least - 1, greatest + 1, Integer.MIN_VALUE, Integer.MAX_VALUE}) {
            Checks.refusedWhole(x, name + " of " + n, IllegalArgumentException.class, () -> call.of(n));
        }
    }
}

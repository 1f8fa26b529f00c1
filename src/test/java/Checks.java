/** The answers of one test that are not as due. */
final class Checks {
    static final int INVALID_ARGUMENT = -1;
    static final int INVALID_STATE = -2;
    static final int LIMIT_REACHED = -3;
    static final int NOT_FOUND = -4;
    static final int MIN = Integer.MIN_VALUE;
    static final int MAX = Integer.MAX_VALUE;

    private static int made;
    private static int wrong;

    private Checks() {
    }

    static void begin() {
        made = 0;
        wrong = 0;
    }

    /** A test that checks nothing is no test. */
    static boolean allGood() {
        return made > 0 && wrong == 0;
    }

    static void due(String what, long got, long want) {
        made++;
        if (got != want) {
            wrong++;
            System.out.println(what + " answered " + got + ", due is " + want);
        }
    }

    static void isTrue(String what, boolean holds) {
        made++;
        if (!holds) {
            wrong++;
            System.out.println(what);
        }
    }
}

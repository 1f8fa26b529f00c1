/** The answers of one test that are not as due, and what many tests need to set up. */
final class Checks {
    static final int INVALID_ARGUMENT = -1;
    static final int INVALID_STATE = -2;
    static final int LIMIT_REACHED = -3;
    static final int NOT_FOUND = -4;

    private static int made;
    private static int wrong;

    private Checks() {
    }

    static void begin() {
        made = 0;
        wrong = 0;
    }

    /** A test that checks nothing is no test. */
    static boolean allGood() {
        return made > 0 && wrong == 0;
    }

    static void due(String what, long got, long want) {
        made++;
        if (got != want) {
            wrong++;
            System.out.println(what + " answered " + got + ", due is " + want);
        }
    }

    static void isTrue(String what, boolean holds) {
        made++;
        if (!holds) {
            wrong++;
            System.out.println(what);
        }
    }

    static void append(CardTerminal x, int... bytes) {
        for (int value : bytes) {
            if (x.appendByte(value) < 0) {
                throw new IllegalStateException("the test appends what is refused");
            }
        }
    }

    /** The byte buffer then holds just these. */
    static void fill(CardTerminal x, int... bytes) {
        x.clearBytes();
        append(x, bytes);
    }

    static CardTerminal with(int... bytes) {
        CardTerminal x = new CardTerminal();
        append(x, bytes);
        return x;
    }

    static int[] join(int[]... parts) {
        int size = 0;
        for (int[] part : parts) {
            size += part.length;
        }
        int[] all = new int[size];
        int at = 0;
        for (int[] part : parts) {
            System.arraycopy(part, 0, all, at, part.length);
            at += part.length;
        }
        return all;
    }

    static int[] times(int number, int... part) {
        int[][] parts = new int[number][];
        java.util.Arrays.fill(parts, part);
        return join(parts);
    }

    /** An identifier of the given length whose bytes are first, 2, 3 and so on. */
    static int[] identifier(int first, int length) {
        int[] bytes = new int[length];
        for (int i = 0; i < length; i++) {
            bytes[i] = i == 0 ? first : i + 1;
        }
        return bytes;
    }

    static int[] object(int tag, int... value) {
        return join(new int[] {tag, value.length}, value);
    }

    static int[] application(int... identifier) {
        return object(97, object(79, identifier));
    }

    static int[] application(int indicator, int[] identifier) {
        return object(97, join(object(79, identifier), object(135, indicator)));
    }

    /** A new object with one application on the card, which is supported and selected. */
    static CardTerminal ready() {
        CardTerminal x = with(identifier(1, 5));
        x.addIdentifier(false);
        putIn(x, application(identifier(1, 5)));
        if (x.select(0, false) != 0) {
            throw new IllegalStateException("the test could not select");
        }
        return x;
    }

    static void putIn(CardTerminal x, int[]... applications) {
        fill(x, join(applications));
        x.insertCard();
    }

    /** Puts the card of ready() in again and selects its application. */
    static void readyAgain(CardTerminal x) {
        putIn(x, application(identifier(1, 5)));
        x.select(0, false);
    }

    /** Like ready(), with all action codes 0, so that each transaction is approved offline. */
    static CardTerminal readyWithoutCodes() {
        CardTerminal x = ready();
        for (int number = 0; number < 3; number++) {
            x.setTerminalCode(number, 0);
        }
        return x;
    }
}

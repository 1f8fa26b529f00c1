/** Promises 20 to 22, and the rules of 'Candidate list'. */
final class CandidatesTest {
    private CandidatesTest() {
    }

    private static CardTerminal supporting(boolean partial, int... identifier) {
        CardTerminal x = Checks.with(identifier);
        x.addIdentifier(partial);
        return x;
    }

    /** Applications with the same identifier, which is supported, and these indicators. */
    private static CardTerminal withIndicators(int... indicators) {
        CardTerminal x = supporting(false, Checks.identifier(1, 5));
        int[][] applications = new int[indicators.length][];
        for (int i = 0; i < indicators.length; i++) {
            applications[i] = Checks.application(indicators[i], Checks.identifier(1, 5));
        }
        Checks.putIn(x, applications);
        return x;
    }

    private static int countWith(boolean partial, int[] supported, int[] application) {
        CardTerminal x = supporting(partial, supported);
        Checks.putIn(x, Checks.application(application));
        return x.candidateCount();
    }

    static void promise20Supported() {
        int[] five = {1, 2, 3, 4, 5};
        int[] six = {1, 2, 3, 4, 5, 6};
        int[] sixteen = Checks.identifier(1, 16);
        Checks.due("equal", countWith(false, five, five), 1);
        Checks.due("equal, partial", countWith(true, five, five), 1);
        Checks.due("begins with it", countWith(false, five, six), 0);
        Checks.due("begins with it, partial", countWith(true, five, six), 1);
        Checks.due("16 begin with it, partial", countWith(true, five, sixteen), 1);
        Checks.due("shorter", countWith(false, six, five), 0);
        Checks.due("shorter, partial", countWith(true, six, five), 0);
        Checks.due("16 equal", countWith(false, sixteen, sixteen), 1);
        Checks.due("last byte differs", countWith(true, five, new int[] {1, 2, 3, 4, 6}), 0);
        Checks.due("first byte differs", countWith(true, five, new int[] {2, 2, 3, 4, 5, 6}), 0);
        Checks.due("zeros behind", countWith(false, five, new int[] {1, 2, 3, 4, 5, 0}), 0);
        Checks.due("zeros wanted", countWith(true, new int[] {1, 2, 3, 4, 5, 0}, five), 0);
    }

    static void promise20CountsOnce() {
        CardTerminal x = supporting(true, 1, 2, 3, 4, 5);
        x.addIdentifier(true);
        x.addIdentifier(false);
        Checks.putIn(x, Checks.application(1, 2, 3, 4, 5));
        Checks.due("candidateCount()", x.candidateCount(), 1);
        x.removeIdentifier(0);
        x.removeIdentifier(0);
        Checks.due("candidateCount()", x.candidateCount(), 1);
        x.removeIdentifier(0);
        Checks.due("candidateCount()", x.candidateCount(), 0);
    }

    static void promise20IdentifiersAddedLaterCount() {
        CardTerminal x = Checks.with(Checks.application(1, 2, 3, 4, 5));
        x.insertCard();
        Checks.due("candidateCount()", x.candidateCount(), 0);
        Checks.fill(x, 1, 2, 3, 4, 5);
        x.addIdentifier(false);
        Checks.due("candidateCount()", x.candidateCount(), 1);
    }

    static void promise20SomeOfMany() {
        CardTerminal x = supporting(true, 3, 2, 3, 4, 5);
        Checks.putIn(x, Checks.application(1, 2, 3, 4, 5), Checks.application(3, 2, 3, 4, 5),
            Checks.application(3, 2, 3, 4, 5, 6), Checks.application(4, 2, 3, 4, 5));
        Checks.due("candidateCount()", x.candidateCount(), 2);
        Checks.due("candidateAt(0)", x.candidateAt(0), 1);
        Checks.due("candidateAt(1)", x.candidateAt(1), 2);
        Checks.due("candidateAt(2)", x.candidateAt(2), Checks.NOT_FOUND);
        Checks.due("select(2, false)", x.select(2, false), 1);
    }

    static void promise21Order() {
        CardTerminal x = withIndicators(0, 15, 3, 0x10, 0x83, 1);
        int[] want = {5, 2, 4, 1, 0, 3};
        for (int i = 0; i < want.length; i++) {
            Checks.due("candidateAt(" + i + ")", x.candidateAt(i), want[i]);
        }
        Checks.due("candidateAt(6)", x.candidateAt(6), Checks.NOT_FOUND);
    }

    static void promise21Errors() {
        CardTerminal x = new CardTerminal();
        Checks.due("candidateAt(-1)", x.candidateAt(-1), Checks.INVALID_ARGUMENT);
        Checks.due("candidateAt(MIN)", x.candidateAt(Integer.MIN_VALUE), Checks.INVALID_ARGUMENT);
        Checks.due("candidateAt(0)", x.candidateAt(0), Checks.NOT_FOUND);
        Checks.due("candidateAt(MAX)", x.candidateAt(Integer.MAX_VALUE), Checks.NOT_FOUND);
    }

    static void promise22ReturnsThePlace() {
        CardTerminal x = withIndicators(0, 15, 3, 0x10, 0x83, 1);
        int[] want = {4, 3, 1, 5, 2, 0};
        for (int application = 0; application < want.length; application++) {
            Checks.due("select(" + application + ")", x.select(application, true), want[application]);
        }
    }

    static void promise22Confirmation() {
        CardTerminal x = withIndicators(0x81, 1);
        Checks.due("select(0, false)", x.select(0, false), Checks.INVALID_STATE);
        Checks.due("start: nothing selected", x.start(1, 0), Checks.INVALID_STATE);
        Checks.due("select(0, true)", x.select(0, true), 0);
        Checks.due("select(1, false)", x.select(1, false), 1);
        Checks.due("select(1, true)", x.select(1, true), 1);
    }

    static void promise22Errors() {
        CardTerminal x = withIndicators(0x81, 1);
        Checks.due("select(2, true)", x.select(2, true), Checks.INVALID_ARGUMENT);
        Checks.due("select(-1, true)", x.select(-1, true), Checks.INVALID_ARGUMENT);
        Checks.due("select(MAX, true)", x.select(Integer.MAX_VALUE, true), Checks.INVALID_ARGUMENT);
        x.removeIdentifier(0);
        Checks.due("select(0, false): state before not found", x.select(0, false), Checks.INVALID_STATE);
        Checks.due("select(0, true)", x.select(0, true), Checks.NOT_FOUND);
        Checks.due("select(1, false)", x.select(1, false), Checks.NOT_FOUND);
        Checks.due("start: nothing selected", x.start(1, 0), Checks.INVALID_STATE);
    }

    static void promise22WhilePending() {
        CardTerminal x = withIndicators(2, 1);
        x.select(0, false);
        Checks.due("start", x.start(1, 0), 3);
        Checks.due("select(1, true)", x.select(1, true), Checks.INVALID_STATE);
        Checks.due("select(2, true)", x.select(2, true), Checks.INVALID_ARGUMENT);
        x.removeIdentifier(0);
        Checks.due("select(1, true)", x.select(1, true), Checks.INVALID_STATE);
        x.answer(1);
        Checks.due("select(1, true)", x.select(1, true), Checks.NOT_FOUND);
    }

    static void promise22StaysSelected() {
        CardTerminal x = Checks.readyWithoutCodes();
        x.removeIdentifier(0);
        Checks.due("candidateCount()", x.candidateCount(), 0);
        Checks.due("start", x.start(1, 0), 1);
        Checks.due("select(0, true)", x.select(0, true), Checks.NOT_FOUND);
        Checks.due("select(1, true)", x.select(1, true), Checks.INVALID_ARGUMENT);
        Checks.due("start after refused calls", x.start(1, 0), 1);
        x.insertCard();
        Checks.due("start after a new card", x.start(1, 0), Checks.INVALID_STATE);
    }
}

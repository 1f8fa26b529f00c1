/** Promises 13 to 19. */
final class TerminalTest {
    private TerminalTest() {
    }

    private static final int MIN = Integer.MIN_VALUE;
    private static final int MAX = Integer.MAX_VALUE;

    static void promise13AddIdentifier() {
        for (int length = 0; length <= 20; length++) {
            CardTerminal x = Checks.with(Checks.identifier(1, length));
            int want = length >= 5 && length <= 16 ? 1 : Checks.INVALID_STATE;
            Checks.due("addIdentifier of " + length, x.addIdentifier(length % 2 == 0), want);
            Checks.due("clearBytes()", x.clearBytes(), length);
        }
        Checks.due("addIdentifier of 120", Checks.with(new int[120]).addIdentifier(true), Checks.INVALID_STATE);
    }

    static void promise13AtMostFive() {
        CardTerminal x = Checks.with(255, 255, 255, 255, 255);
        for (int number = 1; number <= 5; number++) {
            Checks.due("addIdentifier", x.addIdentifier(true), number);
        }
        Checks.due("a sixth", x.addIdentifier(true), Checks.LIMIT_REACHED);
        Checks.fill(x, 1, 2);
        Checks.due("a sixth that is too short", x.addIdentifier(true), Checks.INVALID_STATE);
        Checks.due("removeIdentifier(4)", x.removeIdentifier(4), 4);
    }

    static void promise13TakesTheContentAtOnce() {
        CardTerminal x = Checks.with(Checks.identifier(1, 5));
        x.addIdentifier(false);
        Checks.fill(x, Checks.identifier(2, 6));
        Checks.putIn(x, Checks.application(Checks.identifier(1, 5)), Checks.application(Checks.identifier(2, 6)));
        Checks.due("candidateCount()", x.candidateCount(), 1);
        Checks.due("candidateAt(0)", x.candidateAt(0), 0);
    }

    /** Five identifiers of different lengths, the second and the fourth partial, and a card with each of them. */
    private static CardTerminal five() {
        CardTerminal x = new CardTerminal();
        int[][] applications = new int[5][];
        for (int i = 0; i < 5; i++) {
            Checks.fill(x, Checks.identifier(10 + i, 5 + i));
            x.addIdentifier(i % 2 == 1);
            applications[i] = Checks.application(i + 1, Checks.identifier(10 + i, 5 + i));
        }
        Checks.putIn(x, applications);
        return x;
    }

    private static void candidates(CardTerminal x, int... want) {
        Checks.due("candidateCount()", x.candidateCount(), want.length);
        for (int i = 0; i < want.length; i++) {
            Checks.due("candidateAt(" + i + ")", x.candidateAt(i), want[i]);
        }
    }

    static void promise14RemoveIdentifier() {
        CardTerminal x = five();
        candidates(x, 0, 1, 2, 3, 4);
        Checks.due("removeIdentifier(5)", x.removeIdentifier(5), Checks.INVALID_ARGUMENT);
        Checks.due("removeIdentifier(-1)", x.removeIdentifier(-1), Checks.INVALID_ARGUMENT);
        Checks.due("removeIdentifier(MAX)", x.removeIdentifier(MAX), Checks.INVALID_ARGUMENT);
        Checks.due("removeIdentifier(MIN)", x.removeIdentifier(MIN), Checks.INVALID_ARGUMENT);
        candidates(x, 0, 1, 2, 3, 4);
        Checks.due("removeIdentifier(1)", x.removeIdentifier(1), 4);
        candidates(x, 0, 2, 3, 4);
        Checks.due("removeIdentifier(4)", x.removeIdentifier(4), Checks.INVALID_ARGUMENT);
        Checks.due("removeIdentifier(1)", x.removeIdentifier(1), 3);
        candidates(x, 0, 3, 4);
        Checks.due("removeIdentifier(0)", x.removeIdentifier(0), 2);
        candidates(x, 3, 4);
        Checks.due("removeIdentifier(1)", x.removeIdentifier(1), 1);
        candidates(x, 3);
        Checks.due("removeIdentifier(0)", x.removeIdentifier(0), 0);
        candidates(x);
    }

    static void promise14FlagsMoveDownToo() {
        CardTerminal x = five();
        int[][] longer = new int[5][];
        for (int i = 0; i < 5; i++) {
            longer[i] = Checks.application(Checks.join(Checks.identifier(10 + i, 5 + i), new int[] {99}));
        }
        Checks.putIn(x, longer);
        candidates(x, 1, 3);
        x.removeIdentifier(0);
        candidates(x, 1, 3);
        x.removeIdentifier(0);
        candidates(x, 3);
        x.removeIdentifier(0);
        candidates(x, 3);
        x.removeIdentifier(1);
        candidates(x, 3);
    }

    static void promise14ThenAddedBehindTheOthers() {
        CardTerminal x = five();
        x.removeIdentifier(0);
        Checks.fill(x, Checks.identifier(10, 5));
        Checks.due("addIdentifier(true)", x.addIdentifier(true), 5);
        Checks.due("removeIdentifier(4)", x.removeIdentifier(4), 4);
        candidates(x, 1, 2, 3, 4);
    }

    static void promise15SetTerminalCode() {
        CardTerminal x = new CardTerminal();
        Checks.due("setTerminalCode(0, 127)", x.setTerminalCode(0, 127), 0);
        Checks.due("setTerminalCode(1, 0)", x.setTerminalCode(1, 0), 31);
        Checks.due("setTerminalCode(2, 64)", x.setTerminalCode(2, 64), 8);
        Checks.due("setTerminalCode(3, 0)", x.setTerminalCode(3, 0), Checks.INVALID_ARGUMENT);
        Checks.due("setTerminalCode(-1, 0)", x.setTerminalCode(-1, 0), Checks.INVALID_ARGUMENT);
        Checks.due("setTerminalCode(0, 128)", x.setTerminalCode(0, 128), Checks.INVALID_ARGUMENT);
        Checks.due("setTerminalCode(0, -1)", x.setTerminalCode(0, -1), Checks.INVALID_ARGUMENT);
        Checks.due("setTerminalCode(MIN, MIN)", x.setTerminalCode(MIN, MIN), Checks.INVALID_ARGUMENT);
        Checks.due("setTerminalCode(0, 1)", x.setTerminalCode(0, 1), 127);
        Checks.due("setTerminalCode(1, 1)", x.setTerminalCode(1, 1), 0);
        Checks.due("setTerminalCode(2, 1)", x.setTerminalCode(2, 1), 64);
        Checks.due("issuer code 0", x.setIssuerCode(0, 1), 0);
    }

    static void promise16SetFloorLimit() {
        CardTerminal x = new CardTerminal();
        Checks.due("setFloorLimit(0)", x.setFloorLimit(0), 5000);
        Checks.due("setFloorLimit(99999)", x.setFloorLimit(99999), 0);
        Checks.due("setFloorLimit(100000)", x.setFloorLimit(100000), Checks.INVALID_ARGUMENT);
        Checks.due("setFloorLimit(-1)", x.setFloorLimit(-1), Checks.INVALID_ARGUMENT);
        Checks.due("setFloorLimit(MIN)", x.setFloorLimit(MIN), Checks.INVALID_ARGUMENT);
        Checks.due("setFloorLimit(1)", x.setFloorLimit(1), 99999);
    }

    static void promise17SetOfflineLimits() {
        CardTerminal x = new CardTerminal();
        Checks.due("setOfflineLimits(0, 15)", x.setOfflineLimits(0, 15), 36);
        Checks.due("setOfflineLimits(15, 15)", x.setOfflineLimits(15, 15), 15);
        Checks.due("setOfflineLimits(3, 3)", x.setOfflineLimits(3, 3), 255);
        Checks.due("setOfflineLimits(3, 2)", x.setOfflineLimits(3, 2), Checks.INVALID_ARGUMENT);
        Checks.due("setOfflineLimits(-1, 2)", x.setOfflineLimits(-1, 2), Checks.INVALID_ARGUMENT);
        Checks.due("setOfflineLimits(0, 16)", x.setOfflineLimits(0, 16), Checks.INVALID_ARGUMENT);
        Checks.due("setOfflineLimits(16, 16)", x.setOfflineLimits(16, 16), Checks.INVALID_ARGUMENT);
        Checks.due("setOfflineLimits(0, -1)", x.setOfflineLimits(0, -1), Checks.INVALID_ARGUMENT);
        Checks.due("setOfflineLimits(MIN, MAX)", x.setOfflineLimits(MIN, MAX), Checks.INVALID_ARGUMENT);
        Checks.due("setOfflineLimits(0, 0)", x.setOfflineLimits(0, 0), 51);
        Checks.due("setOfflineLimits(1, 2)", x.setOfflineLimits(1, 2), 0);
    }

    static void promise18SetRandomTarget() {
        CardTerminal x = new CardTerminal();
        Checks.due("setRandomTarget(100)", x.setRandomTarget(100), 0);
        Checks.due("setRandomTarget(101)", x.setRandomTarget(101), Checks.INVALID_ARGUMENT);
        Checks.due("setRandomTarget(-1)", x.setRandomTarget(-1), Checks.INVALID_ARGUMENT);
        Checks.due("setRandomTarget(MAX)", x.setRandomTarget(MAX), Checks.INVALID_ARGUMENT);
        Checks.due("setRandomTarget(0)", x.setRandomTarget(0), 100);
        Checks.due("setRandomTarget(7)", x.setRandomTarget(7), 0);
    }

    static void promise19SetOnline() {
        CardTerminal x = new CardTerminal();
        Checks.due("setOnline(true)", x.setOnline(true), 1);
        Checks.due("setOnline(false)", x.setOnline(false), 1);
        Checks.due("setOnline(false)", x.setOnline(false), 0);
        Checks.due("setOnline(true)", x.setOnline(true), 0);
        Checks.due("setOnline(true)", x.setOnline(true), 1);
    }

    static void promise19PendingStaysPending() {
        CardTerminal x = Checks.ready();
        Checks.due("start", x.start(5, 0), 3);
        Checks.due("setOnline(false)", x.setOnline(false), 1);
        Checks.due("outcomeCount(3)", x.outcomeCount(3), 1);
        Checks.due("start", x.start(5, 0), Checks.INVALID_STATE);
        Checks.due("answer(1)", x.answer(1), 2);
    }
}

import java.util.List;
import java.util.function.Consumer;
import java.util.function.Supplier;

/** "Nothing is promised beyond the answers and state changes described above": questions change nothing, settings no more. */
final class NoMoreTest {
    private static final List<Supplier<CardTerminal>> SCENES = List.of(
        CardTerminal::new, Scenes::ready, Scenes::busy, Scenes::busyOffline, Scenes::busyPending, Scenes::busyBroken);

    private NoMoreTest() {
    }

    private static void unchanged(String what, Consumer<CardTerminal> calls) {
        for (Supplier<CardTerminal> scene : SCENES) {
            Twins.unchanged(what, scene, calls);
        }
    }

    /** Promises 4 to 9. */
    static void askingAboutDataObjects() {
        unchanged("errorOffset", CardTerminal::errorOffset);
        unchanged("objectCount", CardTerminal::objectCount);
        unchanged("objectTag", x -> x.objectTag(0));
        unchanged("objectDepth", x -> x.objectDepth(1));
        unchanged("objectLength", x -> x.objectLength(1));
        unchanged("findObject", x -> x.findObject(79, 0));
    }

    /** Promises 11, 20 and 21. */
    static void askingAboutApplications() {
        unchanged("priorityOf", x -> x.priorityOf(0));
        unchanged("candidateCount", CardTerminal::candidateCount);
        unchanged("candidateAt", x -> x.candidateAt(1));
    }

    /** Promises 26 to 30. */
    static void askingAboutTransactions() {
        unchanged("reversalCount", CardTerminal::reversalCount);
        unchanged("verificationResults", CardTerminal::verificationResults);
        unchanged("outcomeCount", x -> x.outcomeCount(1));
        unchanged("outcomeAmount", x -> x.outcomeAmount(0));
        unchanged("offlineCounter", CardTerminal::offlineCounter);
    }

    /** Promise 25: "and stays first otherwise". */
    static void reversalThatIsNotReceived() {
        unchanged("sendReversal(false)", x -> x.sendReversal(false));
    }

    /** Promises 12 and 15. */
    static void codesSetAndSetBack() {
        for (int number = 0; number < 3; number++) {
            int one = number;
            unchanged("setIssuerCode", x -> x.setIssuerCode(one, x.setIssuerCode(one, 99)));
            unchanged("setTerminalCode", x -> x.setTerminalCode(one, x.setTerminalCode(one, 99)));
        }
    }

    /** Promises 16 to 19. */
    static void limitsSetAndSetBack() {
        unchanged("setFloorLimit", x -> x.setFloorLimit(x.setFloorLimit(0)));
        unchanged("setRandomTarget", x -> x.setRandomTarget(x.setRandomTarget(100)));
        unchanged("setOnline(false)", x -> x.setOnline(x.setOnline(false) == 1));
        unchanged("setOnline(true)", x -> x.setOnline(x.setOnline(true) == 1));
        unchanged("setOfflineLimits", x -> {
            int before = x.setOfflineLimits(7, 9);
            x.setOfflineLimits(before / 16, before % 16);
        });
    }

    /** Promises 2 and 3: the buffer is emptied and filled again. */
    static void bufferFilledAgain() {
        int[] card = Scenes.join(Scenes.busyCard());
        Twins.unchanged("clearBytes", Scenes::busyPending, x -> Scenes.fill(x, card));
        Twins.unchanged("clearBytes", Scenes::busy, x -> Scenes.fill(x, card));
    }

    /** Promises 13 and 14: an identifier that is added and removed again. */
    static void identifierAddedAndRemoved() {
        Supplier<CardTerminal> scene = () -> {
            CardTerminal x = Scenes.busyWith(Scenes.identifier(9, 5));
            x.removeIdentifier(4);
            return x;
        };
        for (boolean partial : new boolean[] {false, true}) {
            Twins.unchanged("addIdentifier, removeIdentifier", scene, x -> {
                Checks.due("addIdentifier", x.addIdentifier(partial), 5);
                Checks.due("removeIdentifier", x.removeIdentifier(4), 4);
            });
        }
    }

    /** Promise 22: another application of the same card is selected, which no answer tells. */
    static void anotherApplicationSelected() {
        for (Supplier<CardTerminal> scene : List.<Supplier<CardTerminal>>of(Scenes::busy, Scenes::busyOffline)) {
            Twins.unchanged("select(3, false)", scene, x -> Checks.due("select(3, false)", x.select(3, false), 1));
            Twins.unchanged("select(2, true)", scene, x -> Checks.due("select(2, true)", x.select(2, true), 0));
        }
    }
}

import java.util.function.Supplier;

/** The candidate list: promises 20 to 22. The comments quote what is tested. */
final class CandidatesTest {
    private static final int[] FIVE = {1, 2, 3, 4, 5};

    private CandidatesTest() {
    }

    private static boolean isCandidate(boolean partial, int[] supported, int... application) {
        CardTerminal x = new CardTerminal();
        Scenes.support(x, partial, supported);
        Scenes.putIn(x, Scenes.application(application));
        return x.candidateCount() == 1;
    }

    /** Applications with the same identifier, which is supported, and these indicators. */
    private static CardTerminal withIndicators(int... indicators) {
        CardTerminal x = new CardTerminal();
        Scenes.support(x, false, FIVE);
        int[][] applications = new int[indicators.length][];
        for (int i = 0; i < indicators.length; i++) {
            applications[i] = Scenes.application(indicators[i], FIVE);
        }
        Scenes.putIn(x, applications);
        return x;
    }

    private static void candidates(CardTerminal x, int... want) {
        Checks.due("candidateCount()", x.candidateCount(), want.length);
        for (int i = 0; i < want.length; i++) {
            Checks.due("candidateAt(" + i + ")", x.candidateAt(i), want[i]);
        }
        Checks.due("candidateAt(" + want.length + ")", x.candidateAt(want.length), Checks.NOT_FOUND);
    }

    // ---- 'Candidate list'

    /** "supported if its identifier equals a supported identifier": of 5 to 16 bytes, with and without the flag. */
    static void promise20Equal() {
        for (int length = 5; length <= 16; length++) {
            int[] identifier = Scenes.identifier(7, length);
            Checks.isTrue("equal, " + length, isCandidate(false, identifier, identifier));
            Checks.isTrue("equal and partial, " + length, isCandidate(true, identifier, identifier));
        }
    }

    /** "equals": a byte that differs, wherever it lies. */
    static void promise20NotEqual() {
        int[] supported = Scenes.identifier(7, 16);
        for (int i = 0; i < 16; i++) {
            int[] other = supported.clone();
            other[i] = other[i] ^ 128;
            Checks.isTrue("byte " + i + " differs", !isCandidate(false, supported, other));
            Checks.isTrue("byte " + i + " differs, partial", !isCandidate(true, supported, other));
        }
    }

    /** "or if it begins with a supported identifier that has the flag for partial selection": longer by one up to eleven. */
    static void promise20BeginsWithIt() {
        for (int length = 6; length <= 16; length++) {
            Checks.isTrue("partial, " + length, isCandidate(true, FIVE, Scenes.identifier(1, length)));
        }
        Checks.isTrue("15 of 16", isCandidate(true, Scenes.identifier(1, 15), Scenes.identifier(1, 16)));
    }

    /** "that has the flag for partial selection": without it, beginning with it is not enough. */
    static void promise20BeginsWithItWithoutTheFlag() {
        for (int length = 6; length <= 16; length++) {
            Checks.isTrue("no flag, " + length, !isCandidate(false, FIVE, Scenes.identifier(1, length)));
        }
        Checks.isTrue("zero behind", !isCandidate(false, FIVE, 1, 2, 3, 4, 5, 0));
    }

    /** "if it begins with a supported identifier": if it is the shorter one, it does not. */
    static void promise20ShorterThanIt() {
        Checks.isTrue("shorter by one", !isCandidate(false, Scenes.identifier(1, 6), FIVE));
        Checks.isTrue("shorter by one, partial", !isCandidate(true, Scenes.identifier(1, 6), FIVE));
        Checks.isTrue("by a zero, partial", !isCandidate(true, Scenes.bytes(1, 2, 3, 4, 5, 0), FIVE));
        Checks.isTrue("15 of 16", !isCandidate(true, Scenes.identifier(1, 16), Scenes.identifier(1, 15)));
    }

    /** "if it begins with": what it begins with must be equal to the last byte. */
    static void promise20BeginsWithAnother() {
        Checks.isTrue("last byte differs", !isCandidate(true, FIVE, 1, 2, 3, 4, 6, 7));
        Checks.isTrue("first byte differs", !isCandidate(true, FIVE, 2, 2, 3, 4, 5, 6));
        Checks.isTrue("lies further behind", !isCandidate(true, FIVE, 9, 1, 2, 3, 4, 5));
    }

    /** "a supported identifier": the flag of one does not count for another. */
    static void promise20FlagOfAnother() {
        CardTerminal x = new CardTerminal();
        Scenes.support(x, false, FIVE);
        Scenes.support(x, true, 9, 2, 3, 4, 5);
        Scenes.putIn(x, Scenes.application(1, 2, 3, 4, 5, 6), Scenes.application(9, 2, 3, 4, 5, 6));
        candidates(x, 1);
    }

    // ---- promise 20

    /** "Returns the number of applications in the candidate list.": none, for want of a card or of an identifier. */
    static void promise20None() {
        candidates(new CardTerminal());
        CardTerminal x = Scenes.with(FIVE);
        x.addIdentifier(true);
        candidates(x);
        CardTerminal y = Scenes.with(Scenes.application(FIVE));
        y.insertCard();
        candidates(y);
    }

    /** "Returns the number of applications in the candidate list.": all six. */
    static void promise20Six() {
        candidates(withIndicators(0, 0, 0, 0, 0, 0), 0, 1, 2, 3, 4, 5);
    }

    /** "The candidate list consists of the supported applications.": each once, however many identifiers support it. */
    static void promise20Once() {
        CardTerminal x = new CardTerminal();
        Scenes.support(x, true, FIVE);
        Scenes.support(x, true, FIVE);
        Scenes.support(x, false, FIVE);
        Scenes.putIn(x, Scenes.application(FIVE));
        candidates(x, 0);
        x.removeIdentifier(0);
        x.removeIdentifier(0);
        candidates(x, 0);
        x.removeIdentifier(0);
        candidates(x);
    }

    /** "The candidate list consists of the supported applications.": by the identifiers as they are now. */
    static void promise20IdentifiersAddedLater() {
        CardTerminal x = Scenes.with(Scenes.application(FIVE));
        x.insertCard();
        candidates(x);
        Scenes.fill(x, FIVE);
        x.addIdentifier(false);
        candidates(x, 0);
        x.removeIdentifier(0);
        candidates(x);
    }

    /** "The candidate list consists of the supported applications.": by the last of five identifiers. */
    static void promise20FifthIdentifier() {
        CardTerminal x = new CardTerminal();
        for (int i = 1; i <= 5; i++) {
            Scenes.support(x, i == 5, i, 2, 3, 4, 5);
        }
        Scenes.putIn(x, Scenes.application(5, 2, 3, 4, 5, 6), Scenes.application(6, 2, 3, 4, 5));
        candidates(x, 0);
    }

    // ---- promise 21

    /** "Applications with a priority from 1 to 15 come first, in ascending order of priority". */
    static void promise21Ascending() {
        candidates(withIndicators(15, 14, 8, 3, 2, 1), 5, 4, 3, 2, 1, 0);
        candidates(withIndicators(1, 2, 3, 8, 14, 15), 0, 1, 2, 3, 4, 5);
    }

    /** "those with priority 0 follow": behind 1 and behind 15. */
    static void promise21PriorityZero() {
        candidates(withIndicators(0, 15), 1, 0);
        candidates(withIndicators(0, 1), 1, 0);
        candidates(withIndicators(15, 0), 0, 1);
        candidates(withIndicators(0, 1, 0, 15), 1, 3, 0, 2);
    }

    /** "Applications with the same priority are in the order of their numbers." */
    static void promise21SamePriority() {
        candidates(withIndicators(5, 5, 5), 0, 1, 2);
        candidates(withIndicators(0, 0, 0), 0, 1, 2);
        candidates(withIndicators(3, 2, 3, 2, 3, 2), 1, 3, 5, 0, 2, 4);
        candidates(withIndicators(15, 0, 15, 0), 0, 2, 1, 3);
    }

    /** "in ascending order of priority": the other bits of the byte don't count. */
    static void promise21OtherBits() {
        candidates(withIndicators(0, 15, 3, 0x10, 0x83, 0x71), 5, 2, 4, 1, 0, 3);
    }

    /** "Returns the number of the application": also where others before it are not supported. */
    static void promise21SomeAreSupported() {
        CardTerminal x = new CardTerminal();
        Scenes.support(x, true, 3, 2, 3, 4, 5);
        Scenes.putIn(x, Scenes.application(1, Scenes.identifier(1, 5)), Scenes.application(2, Scenes.identifier(3, 5)),
            Scenes.application(1, Scenes.identifier(3, 6)), Scenes.application(1, Scenes.identifier(4, 5)));
        candidates(x, 2, 1);
    }

    /** "INVALID_ARGUMENT if index is negative". */
    static void promise21Negative() {
        Checks.due("candidateAt(-1), empty", new CardTerminal().candidateAt(-1), Checks.INVALID_ARGUMENT);
        Twins.refused("candidateAt(-1)", Scenes::busyPending, x -> x.candidateAt(-1), Checks.INVALID_ARGUMENT);
        Twins.refused("candidateAt(MIN)", Scenes::busyPending, x -> x.candidateAt(Checks.MIN),
            Checks.INVALID_ARGUMENT);
    }

    /** "NOT_FOUND if the candidate list has no such element.": behind the last one, of five and of six. */
    static void promise21BehindTheLast() {
        Twins.refused("candidateAt(5)", Scenes::busyPending, x -> x.candidateAt(5), Checks.NOT_FOUND);
        Twins.refused("candidateAt(MAX)", Scenes::busyPending, x -> x.candidateAt(Checks.MAX), Checks.NOT_FOUND);
        CardTerminal y = withIndicators(0, 0, 0, 0, 0, 0);
        Checks.due("candidateAt(5) of six", y.candidateAt(5), 5);
        Checks.due("candidateAt(6) of six", y.candidateAt(6), Checks.NOT_FOUND);
    }

    /** "NOT_FOUND if the candidate list has no such element.": an empty list. */
    static void promise21EmptyList() {
        Twins.refused("candidateAt(0)", CardTerminal::new, x -> x.candidateAt(0), Checks.NOT_FOUND);
    }

    // ---- promise 22

    /** "Returns its place in the candidate list, from 0 on": the first and the last too. */
    static void promise22Place() {
        CardTerminal x = withIndicators(0, 15, 3, 0x10, 0x83, 1);
        int[] want = {4, 3, 1, 5, 2, 0};
        for (int application = 0; application < want.length; application++) {
            Checks.due("select(" + application + ")", x.select(application, true), want[application]);
        }
    }

    /** "Returns its place in the candidate list": applications that are not supported have none. */
    static void promise22PlaceAmongTheSupported() {
        CardTerminal x = Scenes.busy();
        int[] want = {2, 3, 0, 1, 4, Checks.NOT_FOUND};
        for (int application = 0; application < want.length; application++) {
            Checks.due("select(" + application + ")", x.select(application, true), want[application]);
        }
    }

    private static void noSuchApplication(Supplier<CardTerminal> scene, int application) {
        for (boolean confirmed : new boolean[] {false, true}) {
            Twins.refused("select(" + application + ", " + confirmed + ")", scene,
                x -> x.select(application, confirmed), Checks.INVALID_ARGUMENT);
        }
    }

    /** "INVALID_ARGUMENT if there is no such application": too small. */
    static void promise22TooSmall() {
        noSuchApplication(Scenes::busy, -1);
        noSuchApplication(Scenes::busy, Checks.MIN);
    }

    /** "INVALID_ARGUMENT if there is no such application": too large, of six, of one, of none. */
    static void promise22TooLarge() {
        noSuchApplication(Scenes::busy, 6);
        noSuchApplication(Scenes::busy, Checks.MAX);
        noSuchApplication(Scenes::ready, 1);
        noSuchApplication(CardTerminal::new, 0);
    }

    /** "INVALID_STATE if a transaction is pending": also for the application that is selected. */
    static void promise22Pending() {
        Twins.refused("select(0, true)", Scenes::busyPending, x -> x.select(0, true), Checks.INVALID_STATE);
        Twins.refused("select(3, false)", Scenes::busyPending, x -> x.select(3, false), Checks.INVALID_STATE);
        CardTerminal y = Scenes.pending();
        Checks.due("select(0, false)", y.select(0, false), Checks.INVALID_STATE);
        y.answer(1);
        Checks.due("select(0, false), answered", y.select(0, false), 0);
    }

    /** "INVALID_STATE if [...] the application needs confirmation and confirmed is false". */
    static void promise22NotConfirmed() {
        Twins.refused("select(2, false)", Scenes::busy, x -> x.select(2, false), Checks.INVALID_STATE);
        CardTerminal y = withIndicators(0x81, 1);
        Checks.due("select(0, false)", y.select(0, false), Checks.INVALID_STATE);
        Checks.due("start(1, 0): nothing selected", y.start(1, 0), Checks.INVALID_STATE);
    }

    /** "the application needs confirmation and confirmed is false": both are needed for the error. */
    static void promise22Confirmed() {
        CardTerminal x = withIndicators(0x81, 1);
        Checks.due("select(0, true)", x.select(0, true), 0);
        Checks.due("select(1, false)", x.select(1, false), 1);
        Checks.due("select(1, true)", x.select(1, true), 1);
    }

    /** "NOT_FOUND if the application is not in the candidate list." */
    static void promise22NoCandidate() {
        Twins.refused("select(5, true)", Scenes::busy, x -> x.select(5, true), Checks.NOT_FOUND);
        Twins.refused("select(5, false)", Scenes::busy, x -> x.select(5, false), Checks.NOT_FOUND);
        CardTerminal y = Scenes.with(Scenes.application(FIVE));
        y.insertCard();
        Checks.due("select(0, true)", y.select(0, true), Checks.NOT_FOUND);
        Checks.due("start(1, 0): nothing selected", y.start(1, 0), Checks.INVALID_STATE);
    }

    /** "INVALID_ARGUMENT is returned rather than INVALID_STATE": no such application, while one is pending. */
    static void promise22ArgumentBeforeState() {
        noSuchApplication(Scenes::busyPending, 6);
        noSuchApplication(Scenes::busyPending, -1);
    }

    /** "INVALID_STATE rather than [...] NOT_FOUND": pending or not confirmed, and no candidate. */
    static void promise22StateBeforeNotFound() {
        Checks.due("pending", Scenes.busyPending().select(5, true), Checks.INVALID_STATE);
        CardTerminal x = withIndicators(0x81);
        x.removeIdentifier(0);
        Checks.due("not confirmed", x.select(0, false), Checks.INVALID_STATE);
        Checks.due("confirmed", x.select(0, true), Checks.NOT_FOUND);
    }

    /** "It stays selected until another one is selected": a refused selection is none. */
    static void promise22StaysSelectedWhenRefused() {
        CardTerminal x = Scenes.easy();
        Checks.due("select(1, true)", x.select(1, true), Checks.INVALID_ARGUMENT);
        x.removeIdentifier(0);
        Checks.due("select(0, true)", x.select(0, true), Checks.NOT_FOUND);
        Checks.due("start(1, 0)", x.start(1, 0), 1);
    }

    /** "It stays selected [...], also if it is not in the candidate list any more." */
    static void promise22StaysSelectedWhenNoCandidate() {
        CardTerminal x = Scenes.easy();
        x.removeIdentifier(0);
        candidates(x);
        Checks.due("start(1, 0)", x.start(1, 0), 1);
    }

    /** "It stays selected": through each way that a transaction ends. */
    static void promise22StaysSelectedThroughTransactions() {
        CardTerminal x = Scenes.easy();
        x.setTerminalCode(1, 127);
        for (int answer = 0; answer <= 2; answer++) {
            x.setFloorLimit(0);
            Checks.due("start(1, 0)", x.start(1, 0), 3);
            x.answer(answer);
        }
        x.setTerminalCode(0, 127);
        Checks.due("start(1, 0), denied", x.start(1, 0), 0);
        x.setTerminalCode(0, 0);
        x.setOnline(false);
        Checks.due("start(1, 0), offline", x.start(1, 0), 1);
        Checks.due("start(1, 0), offline", x.start(1, 0), 1);
    }

    /** "until [...] a card is put in": also the same card. */
    static void promise22UntilACardIsPutIn() {
        CardTerminal x = Scenes.easy();
        Checks.due("insertCard()", x.insertCard(), 1);
        Checks.due("start(1, 0)", x.start(1, 0), Checks.INVALID_STATE);
    }
}

/** Promises 23 to 30, and the rules of 'Transactions'. */
final class TransactionsTest {
    private TransactionsTest() {
    }

    private static final int MIN = Integer.MIN_VALUE;
    private static final int MAX = Integer.MAX_VALUE;

    private static int resultsOf(CardTerminal x, int amount, int random) {
        if (x.start(amount, random) < 0) {
            throw new IllegalStateException("the test could not start");
        }
        return x.verificationResults();
    }

    /** Like readyWithoutCodes(), with a card that is not new and a counter of 0. */
    private static CardTerminal used() {
        CardTerminal x = Checks.readyWithoutCodes();
        x.setTerminalCode(1, 16);
        x.start(1, 0);
        x.answer(1);
        x.setTerminalCode(1, 0);
        return x;
    }

    private static void lose(CardTerminal x) {
        x.setTerminalCode(1, 127);
        x.setFloorLimit(0);
        x.setOnline(true);
        if (x.start(1, 0) != 3) {
            throw new IllegalStateException("the test's transaction is not pending");
        }
        x.answer(2);
    }

    static void promise23Arguments() {
        CardTerminal x = Checks.readyWithoutCodes();
        Checks.due("start(0, 0)", x.start(0, 0), Checks.INVALID_ARGUMENT);
        Checks.due("start(-1, 0)", x.start(-1, 0), Checks.INVALID_ARGUMENT);
        Checks.due("start(100000, 0)", x.start(100000, 0), Checks.INVALID_ARGUMENT);
        Checks.due("start(1, -1)", x.start(1, -1), Checks.INVALID_ARGUMENT);
        Checks.due("start(1, 100)", x.start(1, 100), Checks.INVALID_ARGUMENT);
        Checks.due("start(MIN, MAX)", x.start(MIN, MAX), Checks.INVALID_ARGUMENT);
        Checks.due("verificationResults()", x.verificationResults(), Checks.NOT_FOUND);
        Checks.due("start(1, 0)", x.start(1, 0), 1);
        Checks.due("start(99999, 99)", x.start(99999, 99), 1);
        Checks.due("outcomeCount(1)", x.outcomeCount(1), 2);
    }

    static void promise23States() {
        CardTerminal x = new CardTerminal();
        Checks.due("start(0, 0), nothing selected", x.start(0, 0), Checks.INVALID_ARGUMENT);
        Checks.due("start(1, 0), nothing selected", x.start(1, 0), Checks.INVALID_STATE);
        CardTerminal y = Checks.ready();
        Checks.due("start(1, 0)", y.start(1, 0), 3);
        Checks.due("start(2, 0), pending", y.start(2, 0), Checks.INVALID_STATE);
        Checks.due("start(1, 100), pending", y.start(1, 100), Checks.INVALID_ARGUMENT);
        Checks.due("outcomeAmount(3)", y.outcomeAmount(3), 1);
    }

    /** Beyond the 512 calls that the document promises an object for, but the limit is in its words. */
    static void promise23At999Transactions() {
        CardTerminal x = Checks.readyWithoutCodes();
        for (int number = 0; number < 999; number++) {
            Checks.due("start", x.start(99999, 0), 1);
        }
        Checks.due("the 1000th", x.start(1, 0), Checks.LIMIT_REACHED);
        Checks.due("the 1000th, wrong", x.start(0, 0), Checks.INVALID_ARGUMENT);
        Checks.due("outcomeCount(1)", x.outcomeCount(1), 999);
        Checks.due("outcomeAmount(1)", x.outcomeAmount(1), 999 * 99999);
        x.insertCard();
        Checks.due("the 1000th, nothing selected", x.start(1, 0), Checks.INVALID_STATE);
    }

    static void promise23AmountBit() {
        CardTerminal x = used();
        Checks.due("4999", resultsOf(x, 4999, 0), 0);
        Checks.due("5000", resultsOf(x, 5000, 0), 1);
        CardTerminal y = used();
        y.setFloorLimit(0);
        Checks.due("1 at 0", resultsOf(y, 1, 0), 1);
        y.setFloorLimit(99999);
        Checks.due("99998 at 99999", resultsOf(y, 99998, 0), 0);
    }

    static void promise23RandomBit() {
        CardTerminal x = used();
        Checks.due("0 at 0", resultsOf(x, 1, 0), 0);
        x.setRandomTarget(1);
        x.setOfflineLimits(15, 15);
        Checks.due("0 at 1", resultsOf(x, 1, 0), 2);
        Checks.due("1 at 1", resultsOf(x, 1, 1), 0);
        x.setRandomTarget(100);
        Checks.due("99 at 100", resultsOf(x, 1, 99), 2);
        x.setRandomTarget(99);
        Checks.due("99 at 99", resultsOf(x, 1, 99), 0);
    }

    static void promise23OfflineBits() {
        CardTerminal x = used();
        int[] want = {0, 0, 4, 4, 12, 12};
        for (int counter = 0; counter < want.length; counter++) {
            Checks.due("counter " + counter, resultsOf(x, 1, 0), want[counter]);
        }
        CardTerminal y = used();
        y.setOfflineLimits(0, 0);
        Checks.due("limits 0", resultsOf(y, 1, 0), 12);
        y.setOfflineLimits(0, 2);
        Checks.due("limits 0 and 2", resultsOf(y, 1, 0), 4);
    }

    static void promise23NewCardBit() {
        CardTerminal x = Checks.readyWithoutCodes();
        Checks.due("new", resultsOf(x, 1, 0), 16);
        Checks.due("still new", resultsOf(x, 1, 0), 16);
    }

    static void promise23ReversalBit() {
        CardTerminal x = used();
        lose(x);
        x.setTerminalCode(1, 0);
        x.setFloorLimit(5000);
        Checks.due("one reversal", resultsOf(x, 1, 0), 32);
        x.sendReversal(false);
        x.setOfflineLimits(15, 15);
        Checks.due("not received", resultsOf(x, 1, 0), 32);
        x.sendReversal(true);
        Checks.due("received", resultsOf(x, 1, 0), 0);
    }

    /** The results have bit 4 alone, so of all codes of one bit only that bit's may give the outcome hit. */
    private static void codesOfEachSide(int number, boolean online, int hit) {
        for (int bit = 0; bit < 7; bit++) {
            int want = bit == 4 ? hit : 1;
            CardTerminal x = Checks.readyWithoutCodes();
            x.setOnline(online);
            x.setTerminalCode(number, 1 << bit);
            Checks.due("terminal code " + number + ", bit " + bit, x.start(1, 0), want);
            CardTerminal y = Checks.readyWithoutCodes();
            y.setOnline(online);
            y.setIssuerCode(number, 1 << bit);
            Checks.due("issuer code " + number + ", bit " + bit, y.start(1, 0), want);
        }
    }

    static void promise23DenialOfEachSide() {
        codesOfEachSide(0, true, 0);
        codesOfEachSide(0, false, 0);
    }

    static void promise23OnlineOfEachSide() {
        codesOfEachSide(1, true, 3);
        codesOfEachSide(1, false, 1);
    }

    static void promise23DefaultOfEachSide() {
        codesOfEachSide(2, true, 1);
        codesOfEachSide(2, false, 0);
    }

    static void promise23OrderOfTheRules() {
        CardTerminal x = Checks.readyWithoutCodes();
        x.setTerminalCode(2, 127);
        Checks.due("default does not count online", x.start(1, 0), 1);
        x.setTerminalCode(1, 127);
        Checks.due("online", x.start(1, 0), 3);
        x.answer(0);
        x.setOnline(false);
        Checks.due("not online", x.start(1, 0), 0);
        x.setTerminalCode(2, 0);
        Checks.due("online does not count offline", x.start(1, 0), 1);
        x.setTerminalCode(0, 127);
        Checks.due("denial offline", x.start(1, 0), 0);
        x.setOnline(true);
        Checks.due("denial online", x.start(1, 0), 0);
    }

    static void promise23ThreeReversals() {
        CardTerminal x = Checks.readyWithoutCodes();
        lose(x);
        lose(x);
        Checks.due("two reversals", x.start(1, 0), 3);
        x.answer(2);
        Checks.due("reversalCount()", x.reversalCount(), 3);
        Checks.due("three reversals", x.start(1, 0), 1);
        x.setTerminalCode(2, 32);
        Checks.due("three reversals, default", x.start(1, 0), 0);
        x.sendReversal(true);
        Checks.due("two again", x.start(1, 0), 3);
        x.answer(0);
    }

    static void promise24Answers() {
        CardTerminal x = Checks.ready();
        Checks.due("answer(0), none pending", x.answer(0), Checks.INVALID_STATE);
        Checks.due("answer(3), none pending", x.answer(3), Checks.INVALID_ARGUMENT);
        x.start(10, 0);
        Checks.due("answer(-1)", x.answer(-1), Checks.INVALID_ARGUMENT);
        Checks.due("answer(3)", x.answer(3), Checks.INVALID_ARGUMENT);
        Checks.due("answer(MAX)", x.answer(MAX), Checks.INVALID_ARGUMENT);
        Checks.due("outcomeCount(3)", x.outcomeCount(3), 1);
        Checks.due("answer(0)", x.answer(0), 0);
        Checks.due("answer(0) again", x.answer(0), Checks.INVALID_STATE);
        x.start(10, 0);
        Checks.due("answer(1)", x.answer(1), 2);
        Checks.due("answer(1) again", x.answer(1), Checks.INVALID_STATE);
        Checks.due("reversalCount()", x.reversalCount(), 0);
    }

    static void promise24HostDeclines() {
        CardTerminal x = Checks.readyWithoutCodes();
        x.start(1, 0);
        x.setTerminalCode(1, 16);
        x.start(2, 0);
        Checks.due("answer(0)", x.answer(0), 0);
        Checks.due("offlineCounter()", x.offlineCounter(), 1);
        Checks.due("verificationResults()", x.verificationResults(), 16);
        Checks.due("still new", x.start(2, 0), 3);
    }

    static void promise24HostApproves() {
        CardTerminal x = Checks.readyWithoutCodes();
        x.start(1, 0);
        x.start(1, 0);
        x.setTerminalCode(1, 16);
        x.start(2, 0);
        Checks.due("offlineCounter()", x.offlineCounter(), 2);
        Checks.due("answer(1)", x.answer(1), 2);
        Checks.due("offlineCounter()", x.offlineCounter(), 0);
        Checks.due("verificationResults()", x.verificationResults(), 20);
        Checks.due("not new", resultsOf(x, 1, 0), 0);
    }

    static void promise24AnswerLost() {
        CardTerminal x = Checks.readyWithoutCodes();
        x.setTerminalCode(1, 127);
        x.start(1, 0);
        Checks.due("answer(2)", x.answer(2), 1);
        Checks.due("verificationResults()", x.verificationResults(), 64 + 16);
        Checks.due("reversalCount()", x.reversalCount(), 1);
        Checks.due("offlineCounter()", x.offlineCounter(), 1);
        x.start(1, 0);
        Checks.due("next results", x.verificationResults(), 32 + 16);
        x.setTerminalCode(2, 64);
        Checks.due("answer(2), default", x.answer(2), 0);
        Checks.due("verificationResults()", x.verificationResults(), 64 + 32 + 16);
        Checks.due("offlineCounter()", x.offlineCounter(), 1);
        Checks.due("reversalCount()", x.reversalCount(), 2);
        Checks.due("answer(2) again", x.answer(2), Checks.INVALID_STATE);
    }

    static void promise24LostIsRule3WhateverElseHolds() {
        CardTerminal x = Checks.readyWithoutCodes();
        x.setTerminalCode(1, 127);
        x.start(1, 0);
        x.setTerminalCode(0, 127);
        x.setIssuerCode(0, 127);
        Checks.due("denial does not count", x.answer(2), 1);
        CardTerminal y = Checks.readyWithoutCodes();
        y.setTerminalCode(1, 127);
        y.start(1, 0);
        y.setIssuerCode(2, 16);
        Checks.due("issuer default", y.answer(2), 0);
        CardTerminal z = Checks.readyWithoutCodes();
        z.setTerminalCode(1, 127);
        z.start(1, 0);
        z.setTerminalCode(2, 32);
        Checks.due("its own reversal gives it no bit 5", z.answer(2), 1);
    }

    static void promise25SendReversal() {
        CardTerminal x = Checks.readyWithoutCodes();
        Checks.due("sendReversal(true), empty", x.sendReversal(true), Checks.INVALID_STATE);
        Checks.due("sendReversal(false), empty", x.sendReversal(false), Checks.INVALID_STATE);
        x.start(1, 0);
        lose(x);
        x.setTerminalCode(1, 0);
        x.start(1, 0);
        lose(x);
        x.start(1, 0);
        x.answer(1);
        lose(x);
        Checks.due("sendReversal(false)", x.sendReversal(false), 1);
        Checks.due("sendReversal(false)", x.sendReversal(false), 1);
        Checks.due("sendReversal(true)", x.sendReversal(true), 1);
        Checks.due("sendReversal(true)", x.sendReversal(true), 3);
        lose(x);
        Checks.due("sendReversal(true)", x.sendReversal(true), 5);
        Checks.due("sendReversal(false)", x.sendReversal(false), 6);
        Checks.due("sendReversal(true)", x.sendReversal(true), 6);
        Checks.due("sendReversal(true), empty", x.sendReversal(true), Checks.INVALID_STATE);
    }

    static void promise25WhilePending() {
        CardTerminal x = Checks.readyWithoutCodes();
        lose(x);
        x.start(1, 0);
        Checks.due("sendReversal(true)", x.sendReversal(true), 0);
        Checks.due("verificationResults()", x.verificationResults(), 32 + 16 + 1);
        Checks.due("answer(2)", x.answer(2), 1);
        Checks.due("sendReversal(true)", x.sendReversal(true), 1);
    }

    static void promise26ReversalCount() {
        CardTerminal x = Checks.readyWithoutCodes();
        for (int count = 0; count < 3; count++) {
            Checks.due("reversalCount()", x.reversalCount(), count);
            lose(x);
        }
        Checks.due("reversalCount()", x.reversalCount(), 3);
        x.sendReversal(false);
        Checks.due("reversalCount()", x.reversalCount(), 3);
        for (int count = 2; count >= 0; count--) {
            x.sendReversal(true);
            Checks.due("reversalCount()", x.reversalCount(), count);
        }
        x.sendReversal(true);
        Checks.due("reversalCount()", x.reversalCount(), 0);
    }

    static void promise27VerificationResults() {
        CardTerminal x = Checks.readyWithoutCodes();
        Checks.due("none yet", x.verificationResults(), Checks.NOT_FOUND);
        x.start(5000, 0);
        Checks.due("5000", x.verificationResults(), 17);
        x.start(1, 0);
        Checks.due("1", x.verificationResults(), 16);
        x.start(0, 0);
        x.setFloorLimit(1);
        Checks.due("kept", x.verificationResults(), 16);
        x.setTerminalCode(0, 16);
        x.start(1, 0);
        Checks.due("declined", x.verificationResults(), 16 + 4 + 1);
        x.insertCard();
        Checks.due("kept with a new card", x.verificationResults(), 16 + 4 + 1);
    }

    private static void sums(CardTerminal x, int... want) {
        for (int outcome = 0; outcome < 4; outcome++) {
            Checks.due("outcomeCount(" + outcome + ")", x.outcomeCount(outcome), want[2 * outcome]);
            Checks.due("outcomeAmount(" + outcome + ")", x.outcomeAmount(outcome), want[2 * outcome + 1]);
        }
    }

    static void promises28And29CountsAndAmounts() {
        CardTerminal x = Checks.readyWithoutCodes();
        x.start(10, 0);
        sums(x, 0, 0, 1, 10, 0, 0, 0, 0);
        x.setTerminalCode(1, 16);
        x.start(200, 0);
        sums(x, 0, 0, 1, 10, 0, 0, 1, 200);
        x.answer(2);
        sums(x, 0, 0, 2, 210, 0, 0, 0, 0);
        x.start(3000, 0);
        x.answer(0);
        sums(x, 1, 3000, 2, 210, 0, 0, 0, 0);
        x.start(40000, 0);
        x.setTerminalCode(2, 64);
        x.answer(2);
        sums(x, 2, 43000, 2, 210, 0, 0, 0, 0);
        x.start(99999, 0);
        x.answer(1);
        sums(x, 2, 43000, 2, 210, 1, 99999, 0, 0);
        x.start(5, 0);
        sums(x, 2, 43000, 3, 215, 1, 99999, 0, 0);
        x.insertCard();
        sums(x, 2, 43000, 3, 215, 1, 99999, 0, 0);
    }

    static void promise28Arguments() {
        CardTerminal x = new CardTerminal();
        for (int outcome : new int[] {-1, 4, MIN, MAX}) {
            Checks.due("outcomeCount(" + outcome + ")", x.outcomeCount(outcome), Checks.INVALID_ARGUMENT);
        }
    }

    static void promise29Arguments() {
        CardTerminal x = new CardTerminal();
        for (int outcome : new int[] {-1, 4, MIN, MAX}) {
            Checks.due("outcomeAmount(" + outcome + ")", x.outcomeAmount(outcome), Checks.INVALID_ARGUMENT);
        }
    }

    static void promise30OfflineCounter() {
        CardTerminal x = Checks.readyWithoutCodes();
        for (int number = 0; number < 20; number++) {
            Checks.due("offlineCounter()", x.offlineCounter(), Math.min(number, 15));
            x.start(1, 0);
        }
        x.setTerminalCode(0, 16);
        x.start(1, 0);
        Checks.due("offlineCounter()", x.offlineCounter(), 15);
        x.setOfflineLimits(15, 15);
        x.start(1, 0);
        Checks.due("both limits 15", x.verificationResults(), 16 + 8 + 4);
    }

    static void promise30DeclinedDoesNotCount() {
        CardTerminal x = Checks.ready();
        x.setTerminalCode(0, 16);
        x.start(1, 0);
        Checks.due("declined", x.offlineCounter(), 0);
        x.setTerminalCode(0, 0);
        x.start(1, 0);
        Checks.due("pending", x.offlineCounter(), 0);
        x.answer(2);
        Checks.due("approved when lost", x.offlineCounter(), 1);
    }
}

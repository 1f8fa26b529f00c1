/** The answer of the host: promise 24. The comments quote what is tested. */
final class AnswerTest {
    private AnswerTest() {
    }

    private static void totals(CardTerminal x, int outcome, int count, int amount) {
        Checks.due("outcomeCount(" + outcome + ")", x.outcomeCount(outcome), count);
        Checks.due("outcomeAmount(" + outcome + ")", x.outcomeAmount(outcome), amount);
    }

    // ---- errors

    /** "INVALID_ARGUMENT if answer is none of these": too small. */
    static void promise24TooSmall() {
        for (int answer : new int[] {-1, Checks.MIN}) {
            Twins.refused("answer(" + answer + ")", Scenes::busyPending, x -> x.answer(answer),
                Checks.INVALID_ARGUMENT);
        }
    }

    /** "INVALID_ARGUMENT if answer is none of these": too large. */
    static void promise24TooLarge() {
        for (int answer : new int[] {3, 4, Checks.MAX}) {
            Twins.refused("answer(" + answer + ")", Scenes::busyPending, x -> x.answer(answer),
                Checks.INVALID_ARGUMENT);
        }
    }

    /** "INVALID_STATE if no transaction is pending.": there has been none, and others that are over. */
    static void promise24NonePending() {
        for (int number = 0; number <= 2; number++) {
            int answer = number;
            Twins.refused("answer(" + answer + "), new", CardTerminal::new, x -> x.answer(answer),
                Checks.INVALID_STATE);
            Twins.refused("answer(" + answer + ")", Scenes::busy, x -> x.answer(answer), Checks.INVALID_STATE);
            Twins.refused("answer(" + answer + "), offline", Scenes::busyOffline, x -> x.answer(answer),
                Checks.INVALID_STATE);
        }
    }

    /** "INVALID_STATE if no transaction is pending.": it has been answered already, in each way. */
    static void promise24AnsweredAlready() {
        for (int first = 0; first <= 2; first++) {
            for (int second = 0; second <= 2; second++) {
                CardTerminal x = Scenes.pending();
                x.answer(first);
                int reversals = x.reversalCount();
                Checks.due("answer " + second + " after " + first, x.answer(second), Checks.INVALID_STATE);
                Checks.due("reversalCount()", x.reversalCount(), reversals);
                totals(x, 3, 0, 0);
            }
        }
    }

    /** "INVALID_STATE if no transaction is pending.": the latest one was declined or approved at once. */
    static void promise24DecidedAtOnce() {
        CardTerminal x = Scenes.easy();
        Scenes.startAs(1, x, 5);
        Checks.due("approved offline", x.answer(1), Checks.INVALID_STATE);
        x.setTerminalCode(0, 16);
        Scenes.startAs(0, x, 5);
        Checks.due("declined", x.answer(1), Checks.INVALID_STATE);
    }

    /** "INVALID_ARGUMENT is returned rather than INVALID_STATE". */
    static void promise24ArgumentBeforeState() {
        Checks.due("answer(3)", Scenes.busy().answer(3), Checks.INVALID_ARGUMENT);
        Checks.due("answer(-1)", new CardTerminal().answer(-1), Checks.INVALID_ARGUMENT);
    }

    // ---- the host declines

    /** "If the host declines, it is declined." */
    static void promise24HostDeclines() {
        CardTerminal x = Scenes.pending();
        Checks.due("answer(HOST_DECLINES)", x.answer(CardTerminal.HOST_DECLINES), CardTerminal.DECLINED);
        totals(x, 0, 1, 10);
        totals(x, 3, 0, 0);
    }

    /** "If the host declines, it is declined.": and nothing more, neither counter nor card nor queue nor results. */
    static void promise24HostDeclinesChangesNoMore() {
        CardTerminal x = Scenes.easy();
        Scenes.startAs(1, x, 1);
        x.setTerminalCode(1, 16);
        Scenes.startAs(3, x, 1);
        x.answer(0);
        Checks.due("offlineCounter()", x.offlineCounter(), 1);
        Checks.due("reversalCount()", x.reversalCount(), 0);
        Checks.due("verificationResults()", x.verificationResults(), 16);
        Checks.due("start(1, 0): the card is still new", x.start(1, 0), 3);
    }

    // ---- the host approves

    /** "If the host approves, it is approved online". */
    static void promise24HostApproves() {
        CardTerminal x = Scenes.pending();
        Checks.due("answer(HOST_APPROVES)", x.answer(CardTerminal.HOST_APPROVES), CardTerminal.APPROVED_ONLINE);
        totals(x, 2, 1, 10);
        totals(x, 3, 0, 0);
        Checks.due("reversalCount()", x.reversalCount(), 0);
        Checks.due("verificationResults()", x.verificationResults(), 16);
    }

    /** "the counter of offline transactions becomes 0": from 0, from 1, and from 15, and then grows again. */
    static void promise24HostApprovesCounter() {
        for (int counter : new int[] {0, 1, 2, 14, 15, 16}) {
            CardTerminal x = Scenes.easy();
            for (int i = 0; i < counter; i++) {
                Scenes.startAs(1, x, 1);
            }
            Checks.due("offlineCounter()", x.offlineCounter(), Math.min(15, counter));
            Scenes.passOnline(x);
            Checks.due("offlineCounter() of " + counter + ", approved", x.offlineCounter(), 0);
            Scenes.startAs(1, x, 1);
            Checks.due("offlineCounter(), the next", x.offlineCounter(), 1);
        }
    }

    /** "the counter of offline transactions becomes 0": at the answer, not before. */
    static void promise24HostApprovesCounterAtTheAnswer() {
        CardTerminal x = Scenes.easy();
        Scenes.startAs(1, x, 1);
        x.setTerminalCode(1, 16);
        Scenes.startAs(3, x, 1);
        Checks.due("offlineCounter(), pending", x.offlineCounter(), 1);
        x.answer(1);
        Checks.due("offlineCounter(), approved", x.offlineCounter(), 0);
    }

    /** "and the card is not new any more". */
    static void promise24HostApprovesCardNotNew() {
        CardTerminal x = Scenes.pending();
        x.answer(1);
        Scenes.startAs(1, x, 1);
        Checks.due("verificationResults()", x.verificationResults(), 0);
        Scenes.startAs(1, x, 1);
        Checks.due("verificationResults()", x.verificationResults(), 0);
    }

    // ---- the answer is lost

    /** A new card's transaction of the amount 10, pending, with these codes of default. */
    private static CardTerminal pendingWith(int terminal, int issuer) {
        CardTerminal x = Scenes.easy();
        x.setTerminalCode(1, 16);
        x.setTerminalCode(2, terminal);
        x.setIssuerCode(2, issuer);
        Scenes.startAs(3, x, 10);
        return x;
    }

    /** "If the answer is lost, bit 6 of its verification results becomes 1": the other bits stay. */
    static void promise24LostBit6() {
        CardTerminal x = pendingWith(0, 0);
        Checks.due("verificationResults(), pending", x.verificationResults(), 16);
        x.answer(CardTerminal.ANSWER_LOST);
        Checks.due("verificationResults(), lost", x.verificationResults(), 64 + 16);
    }

    /** "bit 6 of its verification results becomes 1": the others are those of the start, whatever has changed since. */
    static void promise24LostOtherBitsStay() {
        CardTerminal x = pendingWith(0, 0);
        x.setFloorLimit(0);
        x.setRandomTarget(100);
        x.setOfflineLimits(0, 0);
        x.answer(2);
        Checks.due("verificationResults()", x.verificationResults(), 64 + 16);
    }

    /** "a reversal with the number of the transaction is put at the end of the queue". */
    static void promise24LostReversal() {
        CardTerminal x = Scenes.losing(2);
        Scenes.startAs(1, x, 1);
        Scenes.lose(x);
        Checks.due("reversalCount()", x.reversalCount(), 3);
        Checks.due("sendReversal(true)", x.sendReversal(true), 0);
        Checks.due("sendReversal(true)", x.sendReversal(true), 1);
        Checks.due("sendReversal(true)", x.sendReversal(true), 3);
    }

    /** "a reversal [...] is put at the end of the queue": however the transaction is then decided. */
    static void promise24LostReversalIfDeclined() {
        CardTerminal x = pendingWith(64, 0);
        Checks.due("answer(2)", x.answer(2), 0);
        Checks.due("reversalCount()", x.reversalCount(), 1);
        Checks.due("sendReversal(true)", x.sendReversal(true), 0);
    }

    /** "the transaction is decided by rule 3": nothing in common with default. */
    static void promise24LostApproved() {
        CardTerminal x = pendingWith(0, 0);
        Checks.due("answer(2)", x.answer(2), CardTerminal.APPROVED_OFFLINE);
        totals(x, 1, 1, 10);
        totals(x, 3, 0, 0);
        CardTerminal y = pendingWith(127 - 64 - 16, 0);
        Checks.due("answer(2), other bits", y.answer(2), CardTerminal.APPROVED_OFFLINE);
    }

    /** "the transaction is decided by rule 3": bit 6 in common with default, of each side. */
    static void promise24LostDeclinedByBit6() {
        CardTerminal x = pendingWith(64, 0);
        Checks.due("answer(2)", x.answer(2), CardTerminal.DECLINED);
        totals(x, 0, 1, 10);
        totals(x, 3, 0, 0);
        Checks.due("answer(2), issuer", pendingWith(0, 64).answer(2), CardTerminal.DECLINED);
    }

    /** "the transaction is decided by rule 3": another bit in common with default, of each side. */
    static void promise24LostDeclinedByAnotherBit() {
        Checks.due("answer(2)", pendingWith(16, 0).answer(2), CardTerminal.DECLINED);
        Checks.due("answer(2), issuer", pendingWith(0, 16).answer(2), CardTerminal.DECLINED);
    }

    /** "decided by rule 3, whatever else holds": whether the terminal can go online or not. */
    static void promise24LostOnlineOrNot() {
        for (boolean online : new boolean[] {false, true}) {
            CardTerminal x = pendingWith(0, 0);
            x.setOnline(online);
            Checks.due("approved, online " + online, x.answer(2), 1);
            CardTerminal y = pendingWith(64, 0);
            y.setOnline(online);
            Checks.due("declined, online " + online, y.answer(2), 0);
        }
    }

    /** "decided by rule 3, whatever else holds": denial and online don't count, whatever they have in common. */
    static void promise24LostDenialDoesNotCount() {
        CardTerminal x = pendingWith(0, 0);
        x.setTerminalCode(0, 127);
        x.setIssuerCode(0, 127);
        x.setTerminalCode(1, 127);
        x.setIssuerCode(1, 127);
        Checks.due("answer(2)", x.answer(2), 1);
    }

    /** "decided by rule 3, whatever else holds": whether it is the first reversal or the third. */
    static void promise24LostThirdReversal() {
        for (int reversals = 0; reversals <= 2; reversals++) {
            CardTerminal x = Scenes.losing(reversals);
            Scenes.codes(x, 0, 16, 0);
            Scenes.startAs(3, x, 10);
            Checks.due("approved", x.answer(2), 1);
            Checks.due("reversalCount()", x.reversalCount(), reversals + 1);
            CardTerminal y = Scenes.losing(reversals);
            Scenes.codes(y, 0, 16, 64);
            Scenes.startAs(3, y, 10);
            Checks.due("declined", y.answer(2), 0);
            Checks.due("reversalCount()", y.reversalCount(), reversals + 1);
        }
    }

    /** "if the verification results and default have a bit in common": the codes are those at the answer. */
    static void promise24LostCodesAtTheAnswer() {
        CardTerminal x = pendingWith(0, 0);
        x.setTerminalCode(2, 64);
        Checks.due("answer(2), terminal code set", x.answer(2), 0);
        CardTerminal y = pendingWith(0, 0);
        y.setIssuerCode(2, 16);
        Checks.due("answer(2), issuer code set", y.answer(2), 0);
        CardTerminal z = pendingWith(64, 16);
        z.setTerminalCode(2, 0);
        z.setIssuerCode(2, 0);
        Checks.due("answer(2), codes taken away", z.answer(2), 1);
    }

    /** "bit 5: at least one reversal is in the queue" at the start: its own reversal gives it no bit 5. */
    static void promise24LostOwnReversal() {
        CardTerminal x = pendingWith(32, 0);
        Checks.due("answer(2)", x.answer(2), 1);
        Checks.due("verificationResults()", x.verificationResults(), 64 + 16);
    }

    /** "With each transaction that is approved offline the counter of offline transactions grows by 1": this one too. */
    static void promise24LostCounter() {
        CardTerminal x = pendingWith(0, 0);
        x.answer(2);
        Checks.due("offlineCounter(), approved", x.offlineCounter(), 1);
        CardTerminal y = pendingWith(64, 0);
        y.answer(2);
        Checks.due("offlineCounter(), declined", y.offlineCounter(), 0);
    }

    /** "but not beyond 15": by a lost answer neither. */
    static void promise24LostCounterFull() {
        CardTerminal x = Scenes.easy();
        for (int i = 0; i < 15; i++) {
            Scenes.startAs(1, x, 1);
        }
        Scenes.lose(x);
        Checks.due("offlineCounter()", x.offlineCounter(), 15);
    }

    /** "If the answer is lost": the card stays new. */
    static void promise24LostCardStaysNew() {
        CardTerminal x = Scenes.losing(1);
        Scenes.startAs(1, x, 1);
        Checks.due("verificationResults()", x.verificationResults(), 32 + 16);
    }
}

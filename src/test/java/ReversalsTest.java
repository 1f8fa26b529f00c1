/** The queue of reversals: promises 25 and 26. The comments quote what is tested. */
final class ReversalsTest {
    private ReversalsTest() {
    }

    /** "INVALID_STATE if the queue is empty.": from the beginning, received or not. */
    static void promise25Empty() {
        Twins.refused("sendReversal(true)", CardTerminal::new, x -> x.sendReversal(true), Checks.INVALID_STATE);
        Twins.refused("sendReversal(false)", CardTerminal::new, x -> x.sendReversal(false), Checks.INVALID_STATE);
    }

    private static CardTerminal emptied() {
        CardTerminal x = Scenes.busyPending();
        x.sendReversal(true);
        x.sendReversal(true);
        return x;
    }

    /** "INVALID_STATE if the queue is empty.": after the last one has been received. */
    static void promise25EmptyAgain() {
        Twins.refused("sendReversal(true)", ReversalsTest::emptied, x -> x.sendReversal(true), Checks.INVALID_STATE);
        Twins.refused("sendReversal(false)", ReversalsTest::emptied, x -> x.sendReversal(false),
            Checks.INVALID_STATE);
    }

    /** "Returns the number of the transaction to which it belongs": "Transactions are numbered from 0". */
    static void promise25NumberZero() {
        Checks.due("sendReversal(true)", Scenes.losing(1).sendReversal(true), 0);
    }

    /** "in the order in which they are started": declined, approved and answered ones count, refused starts do not. */
    static void promise25Numbers() {
        CardTerminal x = Scenes.easy();
        Scenes.startAs(1, x, 1);
        x.setTerminalCode(0, 16);
        Scenes.startAs(0, x, 1);
        x.setTerminalCode(0, 0);
        Checks.due("start(0, 0)", x.start(0, 0), Checks.INVALID_ARGUMENT);
        Scenes.lose(x);
        Scenes.codes(x, 0, 16, 0);
        Scenes.startAs(3, x, 1);
        Checks.due("start(1, 0), pending", x.start(1, 0), Checks.INVALID_STATE);
        x.answer(0);
        Scenes.lose(x);
        Scenes.passOnline(x);
        Scenes.lose(x);
        Checks.due("sendReversal(true)", x.sendReversal(true), 2);
        Checks.due("sendReversal(true)", x.sendReversal(true), 4);
        Checks.due("sendReversal(true)", x.sendReversal(true), 6);
    }

    /** "Returns the number of the transaction": beyond 127 and 255. */
    static void promise25LargeNumbers() {
        CardTerminal x = Scenes.easy();
        for (int number = 0; number < 300; number++) {
            if (number == 127 || number == 128 || number == 255 || number == 256 || number == 299) {
                Scenes.lose(x);
                Checks.due("sendReversal(true)", x.sendReversal(true), number);
            } else {
                Scenes.startAs(1, x, 1);
            }
        }
    }

    /** "Sends the first reversal of the queue": the one that was put in first. */
    static void promise25First() {
        CardTerminal x = Scenes.losing(3);
        Checks.due("sendReversal(true)", x.sendReversal(true), 0);
        Checks.due("sendReversal(true)", x.sendReversal(true), 1);
        Checks.due("sendReversal(true)", x.sendReversal(true), 2);
        Checks.due("sendReversal(true)", x.sendReversal(true), Checks.INVALID_STATE);
    }

    /** "and stays first otherwise": however often it is sent. */
    static void promise25NotReceived() {
        CardTerminal x = Scenes.losing(3);
        for (int i = 0; i < 5; i++) {
            Checks.due("sendReversal(false)", x.sendReversal(false), 0);
        }
        Checks.due("reversalCount()", x.reversalCount(), 3);
        Checks.due("sendReversal(true)", x.sendReversal(true), 0);
        Checks.due("sendReversal(false)", x.sendReversal(false), 1);
        Checks.due("sendReversal(true)", x.sendReversal(true), 1);
        Checks.due("sendReversal(false)", x.sendReversal(false), 2);
    }

    /** "It is removed from the queue if the host has received it": the only one, which leaves the queue empty. */
    static void promise25TheOnlyOne() {
        CardTerminal x = Scenes.losing(1);
        Checks.due("sendReversal(false)", x.sendReversal(false), 0);
        Checks.due("sendReversal(true)", x.sendReversal(true), 0);
        Checks.due("reversalCount()", x.reversalCount(), 0);
    }

    /** "put at the end of the queue" and "removed": round and round, with one, two and three in it. */
    static void promise25RoundAndRound() {
        for (int kept = 1; kept <= 3; kept++) {
            CardTerminal x = Scenes.losing(kept);
            for (int number = 0; number < 20; number++) {
                Checks.due("sendReversal(true) of " + kept, x.sendReversal(true), number);
                Scenes.lose(x);
                Checks.due("reversalCount()", x.reversalCount(), kept);
            }
        }
    }

    /** "Sends the first reversal": also while a transaction is pending, which it does not touch. */
    static void promise25WhilePending() {
        CardTerminal x = Scenes.losing(1);
        Scenes.codes(x, 0, 16, 0);
        Scenes.startAs(3, x, 10);
        Checks.due("sendReversal(true)", x.sendReversal(true), 0);
        Checks.due("verificationResults()", x.verificationResults(), 32 + 16);
        Checks.due("outcomeAmount(3)", x.outcomeAmount(3), 10);
        Checks.due("answer(2)", x.answer(2), 1);
        Checks.due("verificationResults()", x.verificationResults(), 64 + 32 + 16);
        Checks.due("sendReversal(true)", x.sendReversal(true), 1);
    }

    /** "It is removed from the queue": the outcome of its transaction stays. */
    static void promise25OutcomeStays() {
        CardTerminal x = Scenes.losing(1);
        x.sendReversal(true);
        Checks.due("outcomeCount(1)", x.outcomeCount(1), 1);
        Checks.due("outcomeAmount(1)", x.outcomeAmount(1), 1);
        Checks.due("offlineCounter()", x.offlineCounter(), 1);
    }

    /** "Returns the number of reversals in the queue.": none up to three, and down again. */
    static void promise26Number() {
        CardTerminal x = Scenes.easy();
        for (int count = 0; count < 3; count++) {
            Checks.due("reversalCount()", x.reversalCount(), count);
            Scenes.lose(x);
        }
        for (int count = 3; count > 0; count--) {
            Checks.due("reversalCount()", x.reversalCount(), count);
            x.sendReversal(true);
        }
        Checks.due("reversalCount(), empty", x.reversalCount(), 0);
        x.sendReversal(true);
        Checks.due("reversalCount(), still empty", x.reversalCount(), 0);
    }

    /** "fewer than 3 reversals are in the queue": so there are never more than three. */
    static void promise26NeverMoreThanThree() {
        CardTerminal x = Scenes.losing(3);
        Scenes.codes(x, 0, 127, 0);
        for (int i = 0; i < 5; i++) {
            Checks.due("start(1, 0)", x.start(1, 0), 1);
            Checks.due("answer(2)", x.answer(2), Checks.INVALID_STATE);
            Checks.due("reversalCount()", x.reversalCount(), 3);
        }
    }

    /** "Returns the number of reversals in the queue.": a new card leaves them. */
    static void promise26WithANewCard() {
        CardTerminal x = Scenes.losing(2);
        x.insertCard();
        Checks.due("reversalCount()", x.reversalCount(), 2);
        Checks.due("sendReversal(false)", x.sendReversal(false), 0);
    }
}

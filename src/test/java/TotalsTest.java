/** What is asked about the transactions: promises 27 to 30. The comments quote what is tested. */
final class TotalsTest {
    private TotalsTest() {
    }

    /** For each outcome from DECLINED to PENDING the number of transactions and the sum of their amounts. */
    private static void totals(CardTerminal x, int... want) {
        for (int outcome = 0; outcome < 4; outcome++) {
            Checks.due("outcomeCount(" + outcome + ")", x.outcomeCount(outcome), want[2 * outcome]);
            Checks.due("outcomeAmount(" + outcome + ")", x.outcomeAmount(outcome), want[2 * outcome + 1]);
        }
    }

    // ---- promise 27

    /** "NOT_FOUND if there has been no transaction." */
    static void promise27None() {
        Twins.refused("verificationResults(), new", CardTerminal::new, CardTerminal::verificationResults,
            Checks.NOT_FOUND);
        Twins.refused("verificationResults(), ready", Scenes::ready, CardTerminal::verificationResults,
            Checks.NOT_FOUND);
    }

    /** "NOT_FOUND if there has been no transaction.": a refused start is none. */
    static void promise27RefusedStart() {
        CardTerminal x = Scenes.ready();
        x.start(0, 0);
        x.start(1, 100);
        Checks.due("verificationResults()", x.verificationResults(), Checks.NOT_FOUND);
    }

    /** "Returns the verification results of the latest transaction": 0 is an answer too. */
    static void promise27Zero() {
        CardTerminal x = Scenes.used();
        Scenes.startAs(1, x, 1);
        Checks.due("verificationResults()", x.verificationResults(), 0);
    }

    /** "of the latest transaction": pending, declined, approved. */
    static void promise27Latest() {
        CardTerminal x = Scenes.easy();
        Scenes.startAs(1, x, 5000);
        Checks.due("approved", x.verificationResults(), 17);
        x.setTerminalCode(0, 16);
        Scenes.startAs(0, x, 1);
        Checks.due("declined", x.verificationResults(), 16);
        x.setTerminalCode(0, 0);
        x.setTerminalCode(1, 1);
        Scenes.startAs(3, x, 6000);
        Checks.due("pending", x.verificationResults(), 17);
        x.answer(1);
        Checks.due("approved online", x.verificationResults(), 17);
    }

    /** "of the latest transaction": refused starts, settings and a new card leave them. */
    static void promise27Kept() {
        CardTerminal x = Scenes.easy();
        Scenes.startAs(1, x, 1);
        x.start(0, 0);
        x.setFloorLimit(0);
        x.setRandomTarget(100);
        x.setOfflineLimits(0, 0);
        Checks.due("verificationResults()", x.verificationResults(), 16);
        x.insertCard();
        x.start(1, 0);
        Checks.due("verificationResults(), new card", x.verificationResults(), 16);
    }

    // ---- promises 28 and 29

    /** "INVALID_ARGUMENT if outcome is none of these.": too small, too large. */
    static void promise28NoOutcome() {
        for (int outcome : new int[] {-1, 4, Checks.MIN, Checks.MAX}) {
            Twins.refused("outcomeCount(" + outcome + ")", Scenes::busyPending, x -> x.outcomeCount(outcome),
                Checks.INVALID_ARGUMENT);
        }
    }

    /** "INVALID_ARGUMENT if outcome is none of these.": too small, too large. */
    static void promise29NoOutcome() {
        for (int outcome : new int[] {-1, 4, Checks.MIN, Checks.MAX}) {
            Twins.refused("outcomeAmount(" + outcome + ")", Scenes::busyPending, x -> x.outcomeAmount(outcome),
                Checks.INVALID_ARGUMENT);
        }
    }

    /** "Counts the transactions with a given outcome.": none at first. */
    static void promises28And29None() {
        totals(new CardTerminal(), 0, 0, 0, 0, 0, 0, 0, 0);
        totals(Scenes.ready(), 0, 0, 0, 0, 0, 0, 0, 0);
    }

    /** "Counts the transactions with a given outcome."; "the sum of the amounts": as it goes on. */
    static void promises28And29GoOn() {
        CardTerminal x = Scenes.easy();
        x.start(10, 0);
        totals(x, 0, 0, 1, 10, 0, 0, 0, 0);
        x.setTerminalCode(1, 16);
        x.start(200, 0);
        totals(x, 0, 0, 1, 10, 0, 0, 1, 200);
        x.answer(2);
        totals(x, 0, 0, 2, 210, 0, 0, 0, 0);
        x.start(3000, 0);
        x.answer(0);
        totals(x, 1, 3000, 2, 210, 0, 0, 0, 0);
        x.start(40000, 0);
        x.setTerminalCode(2, 64);
        x.answer(2);
        totals(x, 2, 43000, 2, 210, 0, 0, 0, 0);
        x.start(99999, 0);
        x.answer(1);
        totals(x, 2, 43000, 2, 210, 1, 99999, 0, 0);
        x.start(5, 0);
        totals(x, 2, 43000, 3, 215, 1, 99999, 0, 0);
    }

    /** "the transactions with a given outcome": a new card leaves them. */
    static void promises28And29NewCard() {
        CardTerminal x = Scenes.busy();
        x.insertCard();
        totals(x, 2, 401, 1, 5, 1, 500, 0, 0);
    }

    /** "Returns the sum": of as many of the largest amounts as an object has calls for, of each outcome. */
    static void promises28And29LargeSums() {
        CardTerminal x = Scenes.easy();
        for (int i = 0; i < 100; i++) {
            x.start(99999, 0);
        }
        x.setTerminalCode(0, 16);
        for (int i = 0; i < 100; i++) {
            x.start(99999, 0);
        }
        Scenes.codes(x, 0, 1, 0);
        for (int i = 0; i < 100; i++) {
            x.start(99999, 0);
            x.answer(1);
        }
        x.start(99999, 0);
        totals(x, 100, 9999900, 100, 9999900, 100, 9999900, 1, 99999);
    }

    // ---- promise 30

    /** "Returns the counter of offline transactions of the card.": 0 at first. */
    static void promise30AtFirst() {
        Checks.due("offlineCounter()", new CardTerminal().offlineCounter(), 0);
        Checks.due("offlineCounter()", Scenes.ready().offlineCounter(), 0);
    }

    /** "With each transaction that is approved offline the counter [...] grows by 1, but not beyond 15." */
    static void promise30NotBeyond15() {
        CardTerminal x = Scenes.easy();
        for (int number = 0; number < 40; number++) {
            Checks.due("offlineCounter() after " + number, x.offlineCounter(), Math.min(number, 15));
            Scenes.startAs(1, x, 1);
        }
    }

    /** "With each transaction that is approved offline": when the terminal can't go online too. */
    static void promise30NotOnline() {
        CardTerminal x = Scenes.easy();
        x.setOnline(false);
        Scenes.startAs(1, x, 1);
        Checks.due("offlineCounter()", x.offlineCounter(), 1);
    }

    /** "that is approved offline": those that are declined, pending or approved online don't count. */
    static void promise30OthersDoNotCount() {
        CardTerminal x = Scenes.easy();
        x.setTerminalCode(0, 16);
        Scenes.startAs(0, x, 1);
        Checks.due("offlineCounter(), declined", x.offlineCounter(), 0);
        Scenes.codes(x, 0, 16, 16);
        Scenes.startAs(3, x, 1);
        Checks.due("offlineCounter(), pending", x.offlineCounter(), 0);
        x.answer(0);
        Checks.due("offlineCounter(), declined by the host", x.offlineCounter(), 0);
        x.setOnline(false);
        Scenes.startAs(0, x, 1);
        Checks.due("offlineCounter(), declined by rule 3", x.offlineCounter(), 0);
        x.setOnline(true);
        Scenes.startAs(3, x, 1);
        x.answer(1);
        Checks.due("offlineCounter(), approved online", x.offlineCounter(), 0);
    }

    /** "the counter of offline transactions of the card": one for all of its applications. */
    static void promise30OfTheCard() {
        CardTerminal x = Scenes.busy();
        Checks.due("offlineCounter()", x.offlineCounter(), 1);
        Checks.due("select(3, false)", x.select(3, false), 1);
        Checks.due("offlineCounter(), another application", x.offlineCounter(), 1);
    }
}

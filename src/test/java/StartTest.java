/** The start of a transaction: promise 23, its verification results and its decision. The comments quote what is tested. */
final class StartTest {
    private StartTest() {
    }

    private static int resultsOf(CardTerminal x, int amount, int random) {
        Checks.isTrue("start(" + amount + ", " + random + ") is not refused", x.start(amount, random) >= 0);
        return x.verificationResults();
    }

    // ---- arguments and states

    /** "amount: 1 to 99999"; "INVALID_ARGUMENT if an argument is out of range": too small. */
    static void promise23AmountTooSmall() {
        for (int amount : new int[] {0, -1, Checks.MIN}) {
            Twins.refused("start(" + amount + ", 0)", Scenes::busy, x -> x.start(amount, 0), Checks.INVALID_ARGUMENT);
        }
    }

    /** "amount: 1 to 99999"; "INVALID_ARGUMENT if an argument is out of range": too large. */
    static void promise23AmountTooLarge() {
        for (int amount : new int[] {100000, Checks.MAX}) {
            Twins.refused("start(" + amount + ", 0)", Scenes::busy, x -> x.start(amount, 0), Checks.INVALID_ARGUMENT);
        }
    }

    /** "amount: 1 to 99999": the least and the largest. */
    static void promise23Amounts() {
        CardTerminal x = Scenes.easy();
        Checks.due("start(1, 0)", x.start(1, 0), 1);
        Checks.due("outcomeAmount(1)", x.outcomeAmount(1), 1);
        Checks.due("start(99999, 0)", x.start(99999, 0), 1);
        Checks.due("outcomeAmount(1)", x.outcomeAmount(1), 100000);
    }

    /** "random: the random number, 0 to 99"; "INVALID_ARGUMENT if an argument is out of range". */
    static void promise23RandomOutOfRange() {
        for (int random : new int[] {-1, 100, Checks.MIN, Checks.MAX}) {
            Twins.refused("start(1, " + random + ")", Scenes::busy, x -> x.start(1, random), Checks.INVALID_ARGUMENT);
        }
    }

    /** "random: the random number, 0 to 99": the least and the largest. */
    static void promise23Randoms() {
        CardTerminal x = Scenes.easy();
        Checks.due("start(1, 0)", x.start(1, 0), 1);
        Checks.due("start(1, 99)", x.start(1, 99), 1);
    }

    /** "INVALID_STATE if no application is selected": with no card, and with one that has candidates. */
    static void promise23NothingSelected() {
        Twins.refused("start(1, 0), new", CardTerminal::new, x -> x.start(1, 0), Checks.INVALID_STATE);
        Twins.refused("start(1, 0), new card", StartTest::withANewCard, x -> x.start(1, 0), Checks.INVALID_STATE);
    }

    private static CardTerminal withANewCard() {
        CardTerminal x = Scenes.busy();
        x.insertCard();
        return x;
    }

    /** "INVALID_STATE if [...] a transaction is pending". */
    static void promise23Pending() {
        Twins.refused("start(1, 99), pending", Scenes::busyPending, x -> x.start(1, 99), Checks.INVALID_STATE);
        Twins.refused("start(99999, 0), pending", Scenes::pending, x -> x.start(99999, 0), Checks.INVALID_STATE);
    }

    /** "INVALID_STATE if [...] a transaction is pending": when it is answered, the next one may start. */
    static void promise23AfterTheAnswer() {
        for (int answer = 0; answer <= 2; answer++) {
            CardTerminal x = Scenes.pending();
            x.answer(answer);
            Checks.isTrue("start(1, 0) after answer " + answer, x.start(1, 0) >= 0);
        }
    }

    /** "INVALID_ARGUMENT is returned rather than INVALID_STATE": nothing selected, and pending. */
    static void promise23ArgumentBeforeState() {
        CardTerminal x = new CardTerminal();
        Checks.due("start(0, 0), nothing selected", x.start(0, 0), Checks.INVALID_ARGUMENT);
        Checks.due("start(1, 100), nothing selected", x.start(1, 100), Checks.INVALID_ARGUMENT);
        CardTerminal y = Scenes.pending();
        Checks.due("start(100000, 0), pending", y.start(100000, 0), Checks.INVALID_ARGUMENT);
        Checks.due("start(1, -1), pending", y.start(1, -1), Checks.INVALID_ARGUMENT);
    }

    /** 999 transactions take more calls than the document promises an object for, but the limit is in its words. */
    private static CardTerminal with999() {
        CardTerminal x = Scenes.easy();
        for (int number = 0; number < 998; number++) {
            x.start(99999, 0);
        }
        Checks.due("the 999th", x.start(99999, 0), 1);
        return x;
    }

    /** "LIMIT_REACHED if there have been 999 transactions." */
    static void promise23At999Transactions() {
        CardTerminal x = with999();
        Checks.due("the 1000th", x.start(1, 0), Checks.LIMIT_REACHED);
        Checks.due("outcomeCount(1)", x.outcomeCount(1), 999);
        Checks.due("outcomeAmount(1)", x.outcomeAmount(1), 999 * 99999);
        Twins.refused("the 1000th", StartTest::with999, y -> y.start(1, 0), Checks.LIMIT_REACHED);
    }

    /** "INVALID_ARGUMENT is returned rather than INVALID_STATE, INVALID_STATE rather than LIMIT_REACHED". */
    static void promise23OtherErrorsAt999Transactions() {
        CardTerminal x = with999();
        Checks.due("start(0, 0)", x.start(0, 0), Checks.INVALID_ARGUMENT);
        x.insertCard();
        Checks.due("start(1, 0), nothing selected", x.start(1, 0), Checks.INVALID_STATE);
    }

    /** "An object is used for at most 512 calls": as many transactions as there are calls for, and then the last call. */
    static void promise23AllCallsOfAnObject() {
        CardTerminal x = Scenes.easy();
        int before = 5 + 2 + 9 + 2 + 1 + 3;
        for (int call = before + 1; call < 512; call++) {
            Checks.due("call " + call + ": start", x.start(99999, 0), 1);
        }
        int transactions = 511 - before;
        Checks.due("call 512: outcomeAmount(1)", x.outcomeAmount(1), transactions * 99999);
    }

    // ---- verification results

    /** "bit 0: the amount is at least the floor limit": one less, just as much, one more. */
    static void promise23Bit0() {
        CardTerminal x = Scenes.used();
        x.setOfflineLimits(15, 15);
        Checks.due("4999 at 5000", resultsOf(x, 4999, 0), 0);
        Checks.due("5000 at 5000", resultsOf(x, 5000, 0), 1);
        Checks.due("5001 at 5000", resultsOf(x, 5001, 0), 1);
    }

    /** "bit 0: the amount is at least the floor limit": at the least and the largest limit. */
    static void promise23Bit0AtTheEnds() {
        CardTerminal x = Scenes.used();
        x.setOfflineLimits(15, 15);
        x.setFloorLimit(0);
        Checks.due("1 at 0", resultsOf(x, 1, 0), 1);
        x.setFloorLimit(1);
        Checks.due("1 at 1", resultsOf(x, 1, 0), 1);
        x.setFloorLimit(2);
        Checks.due("1 at 2", resultsOf(x, 1, 0), 0);
        x.setFloorLimit(99999);
        Checks.due("99998 at 99999", resultsOf(x, 99998, 0), 0);
        Checks.due("99999 at 99999", resultsOf(x, 99999, 0), 1);
    }

    /** "bit 1: the random number is less than the random target": one less, just as much, one more. */
    static void promise23Bit1() {
        CardTerminal x = Scenes.used();
        x.setOfflineLimits(15, 15);
        x.setRandomTarget(40);
        Checks.due("39 at 40", resultsOf(x, 1, 39), 2);
        Checks.due("40 at 40", resultsOf(x, 1, 40), 0);
        Checks.due("41 at 40", resultsOf(x, 1, 41), 0);
    }

    /** "bit 1: the random number is less than the random target": never at 0, always at 100. */
    static void promise23Bit1AtTheEnds() {
        CardTerminal x = Scenes.used();
        x.setOfflineLimits(15, 15);
        Checks.due("0 at 0", resultsOf(x, 1, 0), 0);
        x.setRandomTarget(1);
        Checks.due("0 at 1", resultsOf(x, 1, 0), 2);
        Checks.due("1 at 1", resultsOf(x, 1, 1), 0);
        x.setRandomTarget(99);
        Checks.due("98 at 99", resultsOf(x, 1, 98), 2);
        Checks.due("99 at 99", resultsOf(x, 1, 99), 0);
        x.setRandomTarget(100);
        Checks.due("99 at 100", resultsOf(x, 1, 99), 2);
        Checks.due("0 at 100", resultsOf(x, 1, 0), 2);
    }

    /** A card that is not new, with so many offline transactions. */
    private static CardTerminal counting(int offline) {
        CardTerminal x = Scenes.used();
        for (int i = 0; i < offline; i++) {
            Scenes.startAs(1, x, 1);
        }
        return x;
    }

    /** "bit 2: the counter of offline transactions is at least the lower offline limit": one less, just as much, one more. */
    static void promise23Bit2() {
        for (int limit = 0; limit <= 15; limit++) {
            for (int counter = Math.max(0, limit - 1); counter <= Math.min(15, limit + 1); counter++) {
                CardTerminal x = counting(counter);
                x.setOfflineLimits(limit, 15);
                int want = (counter >= limit ? 4 : 0) + (counter >= 15 ? 8 : 0);
                Checks.due("counter " + counter + ", lower " + limit, resultsOf(x, 1, 0), want);
            }
        }
    }

    /** "bit 3: the counter of offline transactions is at least the upper offline limit": one less, just as much, one more. */
    static void promise23Bit3() {
        for (int limit = 0; limit <= 15; limit++) {
            for (int counter = Math.max(0, limit - 1); counter <= Math.min(15, limit + 1); counter++) {
                CardTerminal x = counting(counter);
                x.setOfflineLimits(0, limit);
                int want = 4 + (counter >= limit ? 8 : 0);
                Checks.due("counter " + counter + ", upper " + limit, resultsOf(x, 1, 0), want);
            }
        }
    }

    /** "the offline limits are 2 and 4": bits 2 and 3 as the counter grows. */
    static void promise23Bits2And3AtFirst() {
        CardTerminal x = Scenes.used();
        int[] want = {0, 0, 4, 4, 12, 12};
        for (int counter = 0; counter < want.length; counter++) {
            Checks.due("counter " + counter, resultsOf(x, 1, 0), want[counter]);
        }
    }

    /** "bits [...] 2 [...] 3": both limits 15, which the counter reaches and does not pass. */
    static void promise23Bits2And3AtTheFullCounter() {
        CardTerminal x = Scenes.used();
        x.setOfflineLimits(15, 15);
        for (int counter = 0; counter < 15; counter++) {
            Checks.due("counter " + counter, resultsOf(x, 1, 0), 0);
        }
        for (int more = 0; more < 20; more++) {
            Checks.due("counter 15, " + more, resultsOf(x, 1, 0), 12);
        }
    }

    /** "bit 4: the card is new": until the host approves a transaction of it. */
    static void promise23Bit4() {
        CardTerminal x = Scenes.easy();
        x.setOfflineLimits(15, 15);
        Checks.due("new", resultsOf(x, 1, 0), 16);
        Checks.due("still new", resultsOf(x, 1, 0), 16);
        Scenes.passOnline(x);
        Checks.due("not new", resultsOf(x, 1, 0), 0);
    }

    /** "bit 5: at least one reversal is in the queue": none, one, two, three. */
    static void promise23Bit5() {
        for (int reversals = 0; reversals <= 3; reversals++) {
            CardTerminal x = Scenes.losing(reversals);
            x.setOfflineLimits(15, 15);
            Checks.due(reversals + " reversals", resultsOf(x, 1, 0), 16 + (reversals > 0 ? 32 : 0));
        }
    }

    /** "bit 5: at least one reversal is in the queue": until the last one has been received. */
    static void promise23Bit5UntilReceived() {
        CardTerminal x = Scenes.losing(2);
        x.setOfflineLimits(15, 15);
        x.sendReversal(true);
        Checks.due("one left", resultsOf(x, 1, 0), 48);
        x.sendReversal(false);
        Checks.due("not received", resultsOf(x, 1, 0), 48);
        x.sendReversal(true);
        Checks.due("received", resultsOf(x, 1, 0), 16);
    }

    /** "bit 6: 0 (it becomes 1 if an online answer is lost)": at a start it is 0, also after a lost answer. */
    static void promise23Bit6() {
        CardTerminal x = Scenes.losing(1);
        Checks.due("after a lost answer", resultsOf(x, 1, 0), 48);
        x.setOfflineLimits(0, 0);
        x.setFloorLimit(0);
        x.setRandomTarget(100);
        Checks.due("all others", resultsOf(x, 1, 0), 63);
    }

    // ---- decision

    /** The results have bit 4 alone, so of all codes of one bit only that bit's may give the outcome hit. */
    private static void codesOfEachSide(int number, boolean online, int hit) {
        for (int bit = 0; bit < 7; bit++) {
            int want = bit == 4 ? hit : 1;
            CardTerminal x = Scenes.easy();
            x.setOnline(online);
            x.setTerminalCode(number, 1 << bit);
            Checks.due("terminal code " + number + ", bit " + bit, x.start(1, 0), want);
            CardTerminal y = Scenes.easy();
            y.setOnline(online);
            y.setIssuerCode(number, 1 << bit);
            Checks.due("issuer code " + number + ", bit " + bit, y.start(1, 0), want);
        }
    }

    /** "Let denial be the bitwise or of the terminal action code 0 and the issuer action code 0": each side alone. */
    static void promise23DenialOfEachSide() {
        codesOfEachSide(0, true, 0);
        codesOfEachSide(0, false, 0);
    }

    /** "let online [...] be formed likewise from the codes 1": each side alone. */
    static void promise23OnlineOfEachSide() {
        codesOfEachSide(1, true, 3);
        codesOfEachSide(1, false, 1);
    }

    /** "let [...] default be formed likewise from the codes [...] 2": each side alone. */
    static void promise23DefaultOfEachSide() {
        codesOfEachSide(2, true, 1);
        codesOfEachSide(2, false, 0);
    }

    /** "the bitwise or": bits of both sides, of which one alone would not hit, nor would their sum or their difference. */
    static void promise23OrOfBothSides() {
        CardTerminal x = Scenes.easy();
        x.setTerminalCode(0, 8);
        x.setIssuerCode(0, 8);
        Checks.due("8 or 8 is not 16", x.start(1, 0), 1);
        x.setTerminalCode(0, 16);
        x.setIssuerCode(0, 16);
        Checks.due("16 or 16 is not 0", x.start(1, 0), 0);
        x.setTerminalCode(0, 2);
        x.setIssuerCode(0, 16);
        Checks.due("2 or 16", x.start(1, 0), 0);
    }

    /** "An action code is a number from 0 to 127 whose bits stand for the verification results": each bit for its own. */
    static void promise23EachBitOfACode() {
        for (int bit : new int[] {0, 1, 2, 4, 5}) {
            for (int code = 0; code < 7; code++) {
                CardTerminal x = withResult(bit);
                x.setTerminalCode(0, 1 << code);
                Checks.due("bit " + bit + ", code " + (1 << code), x.start(1, 50), code == bit ? 0 : 1);
                Checks.due("results", x.verificationResults(), 1 << bit);
            }
        }
    }

    /** The next start(1, 50) has just this bit of its results, and all codes are 0. */
    private static CardTerminal withResult(int bit) {
        CardTerminal x = bit == 4 ? Scenes.easy() : Scenes.used();
        x.setOfflineLimits(bit == 2 ? 0 : 15, 15);
        x.setRandomTarget(bit == 1 ? 51 : 50);
        if (bit == 5) {
            Scenes.lose(x);
        }
        x.setFloorLimit(bit == 0 ? 1 : 2);
        return x;
    }

    /** "whose bits stand for the verification results": bit 3, which never comes without bit 2. */
    static void promise23Bit3OfACode() {
        for (int code = 0; code < 7; code++) {
            CardTerminal x = Scenes.used();
            x.setOfflineLimits(0, 0);
            x.setTerminalCode(0, 1 << code);
            Checks.due("code " + (1 << code), x.start(1, 50), code == 2 || code == 3 ? 0 : 1);
        }
    }

    /** "1. If the verification results and denial have a bit in common, the transaction is declined.": before all else. */
    static void promise23Rule1() {
        for (boolean online : new boolean[] {false, true}) {
            CardTerminal x = Scenes.easy();
            x.setOnline(online);
            Scenes.codes(x, 16, 127, 0);
            Checks.due("denial, online " + online, x.start(1, 0), 0);
            Scenes.codes(x, 16, 0, 127);
            Checks.due("denial, online " + online, x.start(1, 0), 0);
        }
    }

    /** "have a bit in common": many bits in the code, none of them in the results, hit nothing. */
    static void promise23NoBitInCommon() {
        CardTerminal x = Scenes.easy();
        x.setOfflineLimits(15, 15);
        Scenes.codes(x, 127 - 16, 127 - 16, 127 - 16);
        Checks.due("online", x.start(1, 0), 1);
        x.setOnline(false);
        Checks.due("not online", x.start(1, 0), 1);
    }

    /** "have a bit in common": results of 0 hit nothing, whatever the codes. */
    static void promise23NoResults() {
        CardTerminal x = Scenes.used();
        x.setOfflineLimits(15, 15);
        Scenes.codes(x, 127, 127, 127);
        Checks.due("online", x.start(1, 0), 1);
        x.setOnline(false);
        Checks.due("not online", x.start(1, 0), 1);
    }

    /** "2. Otherwise, if the terminal can go online [...]": default does not count then. */
    static void promise23Rule2() {
        CardTerminal x = Scenes.easy();
        Scenes.codes(x, 0, 0, 127);
        Checks.due("nothing in common with online", x.start(1, 0), 1);
        Scenes.codes(x, 0, 16, 127);
        Checks.due("bit 4 in common with online", x.start(1, 0), 3);
    }

    /** "3. Otherwise, [...]": the terminal can't go online, and online does not count. */
    static void promise23Rule3() {
        CardTerminal x = Scenes.easy();
        x.setOnline(false);
        Scenes.codes(x, 0, 127, 0);
        Checks.due("nothing in common with default", x.start(1, 0), 1);
        Scenes.codes(x, 0, 127, 16);
        Checks.due("bit 4 in common with default", x.start(1, 0), 0);
    }

    /** "and fewer than 3 reversals are in the queue": none, one, two, three. */
    static void promise23FewerThan3Reversals() {
        for (int reversals = 0; reversals <= 3; reversals++) {
            CardTerminal x = Scenes.losing(reversals);
            Scenes.codes(x, 0, 127, 0);
            Checks.due(reversals + " reversals", x.start(1, 0), reversals < 3 ? 3 : 1);
            CardTerminal y = Scenes.losing(reversals);
            Scenes.codes(y, 0, 0, 127);
            Checks.due(reversals + " reversals, default", y.start(1, 0), reversals < 3 ? 1 : 0);
        }
    }

    /** "and fewer than 3 reversals are in the queue": again, when the host has received one of three. */
    static void promise23FewerThan3ReversalsAgain() {
        CardTerminal x = Scenes.losing(3);
        Scenes.codes(x, 0, 127, 0);
        x.sendReversal(false);
        Checks.due("not received", x.start(1, 0), 1);
        x.sendReversal(true);
        Checks.due("received", x.start(1, 0), 3);
    }

    /** "the terminal action codes are 0 (denial), 31 (online) and 8 (default)": what they decide. */
    static void promise23CodesAtFirst() {
        CardTerminal x = Scenes.ready();
        Checks.due("a new card", x.start(1, 0), 3);
        x.answer(1);
        Checks.due("nothing", x.start(1, 0), 1);
        Checks.due("the floor limit", x.start(5000, 0), 3);
        x.answer(0);
        x.setOnline(false);
        for (int counter = 1; counter < 4; counter++) {
            Checks.due("counter " + counter, x.start(5000, 0), 1);
        }
        Checks.due("the upper limit", x.start(1, 0), 0);
    }

    /** "A transaction that is pending has the outcome PENDING until it is answered." */
    static void promise23OutcomePending() {
        CardTerminal x = Scenes.pending();
        Checks.due("outcomeCount(3)", x.outcomeCount(3), 1);
        Checks.due("outcomeAmount(3)", x.outcomeAmount(3), 10);
        Checks.due("offlineCounter()", x.offlineCounter(), 0);
        x.answer(0);
        Checks.due("outcomeCount(3), answered", x.outcomeCount(3), 0);
        Checks.due("outcomeAmount(3), answered", x.outcomeAmount(3), 0);
    }
}

/** Promises 1 and 10 to 12. */
final class CardTest {
    private CardTest() {
    }

    private static int[] aid(int first) {
        return Checks.identifier(first, 5);
    }

    private static int inserted(int... bytes) {
        return Checks.with(bytes).insertCard();
    }

    static void promise1NewObject() {
        CardTerminal x = new CardTerminal();
        Checks.due("offlineCounter()", x.offlineCounter(), 0);
        Checks.due("reversalCount()", x.reversalCount(), 0);
        Checks.due("candidateCount()", x.candidateCount(), 0);
        Checks.due("verificationResults()", x.verificationResults(), Checks.NOT_FOUND);
        Checks.due("priorityOf(0)", x.priorityOf(0), Checks.INVALID_ARGUMENT);
        Checks.due("removeIdentifier(0)", x.removeIdentifier(0), Checks.INVALID_ARGUMENT);
        for (int outcome = 0; outcome <= 3; outcome++) {
            Checks.due("outcomeCount", x.outcomeCount(outcome), 0);
            Checks.due("outcomeAmount", x.outcomeAmount(outcome), 0);
        }
        Checks.due("start", x.start(1, 0), Checks.INVALID_STATE);
        Checks.due("answer", x.answer(0), Checks.INVALID_STATE);
        Checks.due("sendReversal", x.sendReversal(false), Checks.INVALID_STATE);
        Checks.due("clearBytes()", x.clearBytes(), 0);
    }

    static void promise1InitialSettings() {
        CardTerminal x = new CardTerminal();
        Checks.due("terminal denial", x.setTerminalCode(0, 1), 0);
        Checks.due("terminal online", x.setTerminalCode(1, 1), 31);
        Checks.due("terminal default", x.setTerminalCode(2, 1), 8);
        for (int number = 0; number < 3; number++) {
            Checks.due("issuer code", x.setIssuerCode(number, 1), 0);
        }
        Checks.due("floor limit", x.setFloorLimit(1), 5000);
        Checks.due("offline limits", x.setOfflineLimits(0, 0), 16 * 2 + 4);
        Checks.due("random target", x.setRandomTarget(1), 0);
        Checks.due("online", x.setOnline(true), 1);
    }

    static void promise1ObjectsShareNothing() {
        CardTerminal x = Checks.ready();
        x.setTerminalCode(1, 0);
        x.start(1, 0);
        CardTerminal y = new CardTerminal();
        Checks.due("y.setTerminalCode", y.setTerminalCode(1, 5), 31);
        Checks.due("y.offlineCounter", y.offlineCounter(), 0);
        Checks.due("y.clearBytes", y.clearBytes(), 0);
        Checks.due("y.verificationResults", y.verificationResults(), Checks.NOT_FOUND);
        Checks.due("x.setTerminalCode", x.setTerminalCode(1, 5), 0);
    }

    static void promise10OrderAndNesting() {
        int[] inner = Checks.application(3, aid(7));
        int[] outer = Checks.object(97, Checks.join(inner, Checks.object(79, aid(8)), Checks.object(135, 2)));
        CardTerminal x = Checks.with(Checks.join(Checks.application(1, aid(6)), Checks.object(112, outer)));
        Checks.due("insertCard()", x.insertCard(), 3);
        Checks.due("priorityOf(0)", x.priorityOf(0), 1);
        Checks.due("priorityOf(1), the outer one", x.priorityOf(1), 2);
        Checks.due("priorityOf(2), the inner one", x.priorityOf(2), 3);
        Checks.due("priorityOf(3)", x.priorityOf(3), Checks.INVALID_ARGUMENT);
    }

    static void promise10OnlyTag97() {
        Checks.due("tag 96", inserted(Checks.object(96, Checks.object(79, aid(1)))), 0);
        Checks.due("tag 65", inserted(Checks.object(65, Checks.object(79, aid(1)))), 0);
        Checks.due("no children", inserted(97, 0), 0);
        Checks.due("identifier on its own", inserted(Checks.object(79, aid(1))), 0);
        Checks.due("child with tag 78", inserted(Checks.object(97, Checks.object(78, aid(1)))), 0);
        Checks.due("empty buffer", inserted(), 0);
    }

    static void promise10GrandchildIsNoChild() {
        int[] wrapped = Checks.object(97, Checks.object(112, Checks.object(79, aid(1))));
        Checks.due("grandchild", inserted(wrapped), 0);
        int[] neighbour = Checks.join(new int[] {97, 0}, Checks.object(79, aid(1)));
        Checks.due("behind it", inserted(neighbour), 0);
        int[] both = Checks.object(97, Checks.join(Checks.object(79, aid(1)),
            Checks.object(112, Checks.object(79, aid(2)))));
        Checks.due("child and grandchild", inserted(both), 1);
    }

    static void promise10ExactlyOneIdentifier() {
        int[] one = Checks.object(79, aid(1));
        int[] two = Checks.object(79, aid(2));
        Checks.due("two", inserted(Checks.object(97, Checks.join(one, two))), 0);
        Checks.due("three", inserted(Checks.object(97, Checks.join(one, one, one))), 0);
        int[] tooShort = Checks.object(79, 1, 2, 3, 4);
        int[] tooLong = Checks.object(79, Checks.identifier(1, 17));
        Checks.due("others are not counted", inserted(Checks.object(97, Checks.join(tooShort, one, tooLong))), 1);
    }

    static void promise10IdentifierLength() {
        for (int length = 0; length <= 20; length++) {
            int want = length >= 5 && length <= 16 ? 1 : 0;
            Checks.due("length " + length, inserted(Checks.application(Checks.identifier(1, length))), want);
        }
    }

    static void promise10TheCountedChildIsTheIdentifier() {
        CardTerminal x = Checks.with(aid(2));
        x.addIdentifier(false);
        Checks.putIn(x, Checks.object(97, Checks.join(Checks.object(79, 2, 2, 3, 4),
            Checks.object(79, aid(2)))));
        Checks.due("candidateCount()", x.candidateCount(), 1);
        Checks.putIn(x, Checks.object(97, Checks.join(Checks.object(79, 2, 2, 3, 4),
            Checks.object(79, aid(3)))));
        Checks.due("candidateCount()", x.candidateCount(), 0);
    }

    private static int priorityWith(int[]... others) {
        int[] children = Checks.join(Checks.object(79, aid(1)), Checks.join(others));
        CardTerminal x = Checks.with(Checks.object(97, children));
        Checks.due("insertCard()", x.insertCard(), 1);
        return x.priorityOf(0);
    }

    static void promise10Priority() {
        Checks.due("none", priorityWith(), 0);
        Checks.due("15", priorityWith(Checks.object(135, 15)), 15);
        Checks.due("0", priorityWith(Checks.object(135, 0)), 0);
        Checks.due("16", priorityWith(Checks.object(135, 16)), 0);
        Checks.due("255", priorityWith(Checks.object(135, 255)), 15);
        Checks.due("128", priorityWith(Checks.object(135, 128)), 0);
        Checks.due("120", priorityWith(Checks.object(135, 120)), 8);
        Checks.due("first one", priorityWith(Checks.object(135, 3), Checks.object(135, 4)), 3);
        Checks.due("too long ones", priorityWith(Checks.object(135, 3, 3), Checks.object(135, 4)), 4);
        Checks.due("empty ones", priorityWith(Checks.object(135), Checks.object(135, 5)), 5);
        Checks.due("only a long one", priorityWith(Checks.object(135, 3, 3)), 0);
        Checks.due("of a grandchild", priorityWith(Checks.object(112, Checks.object(135, 6))), 0);
        int[] before = Checks.object(97, Checks.join(Checks.object(135, 9), Checks.object(79, aid(1))));
        CardTerminal x = Checks.with(before);
        x.insertCard();
        Checks.due("before the identifier", x.priorityOf(0), 9);
    }

    static void promise10PriorityOfTheCardBefore() {
        CardTerminal x = Checks.with(Checks.application(0x85, aid(1)));
        x.insertCard();
        Checks.due("priorityOf(0)", x.priorityOf(0), 5);
        Checks.putIn(x, Checks.application(aid(1)));
        Checks.due("priorityOf(0) of the new card", x.priorityOf(0), 0);
    }

    private static int confirms(int... indicator) {
        CardTerminal x = Checks.with(aid(1));
        x.addIdentifier(false);
        Checks.putIn(x, Checks.object(97, Checks.join(Checks.object(79, aid(1)), Checks.object(135, indicator))));
        return x.select(0, false);
    }

    static void promise10Confirmation() {
        Checks.due("128", confirms(128), Checks.INVALID_STATE);
        Checks.due("255", confirms(255), Checks.INVALID_STATE);
        Checks.due("127", confirms(127), 0);
        Checks.due("0", confirms(0), 0);
        Checks.due("two bytes", confirms(128, 128), 0);
        Checks.due("no byte", confirms(), 0);
    }

    static void promise10SixApplications() {
        int[] six = Checks.times(6, Checks.application(aid(1)));
        CardTerminal x = Checks.with(six);
        Checks.due("six", x.insertCard(), 6);
        Checks.append(x, Checks.application(aid(1)));
        Checks.due("seven", x.insertCard(), Checks.LIMIT_REACHED);
        Checks.due("priorityOf(5)", x.priorityOf(5), 0);
        Checks.due("priorityOf(6)", x.priorityOf(6), Checks.INVALID_ARGUMENT);
        Checks.append(x, 1);
        Checks.due("seven and an error", x.insertCard(), Checks.INVALID_STATE);
        Checks.due("twelve", inserted(Checks.times(12, Checks.application(aid(1)))), Checks.LIMIT_REACHED);
    }

    static void promise10SixLongIdentifiers() {
        CardTerminal x = new CardTerminal();
        Checks.append(x, Checks.times(6, Checks.application(Checks.identifier(9, 16))));
        Checks.due("insertCard()", x.insertCard(), 6);
        Checks.fill(x, Checks.identifier(9, 16));
        x.addIdentifier(false);
        Checks.due("candidateCount()", x.candidateCount(), 6);
    }

    static void promise10WhatANewCardSets() {
        CardTerminal x = Checks.readyWithoutCodes();
        x.start(1, 0);
        x.setIssuerCode(0, 64);
        x.setIssuerCode(1, 64);
        x.setIssuerCode(2, 64);
        Checks.due("offlineCounter()", x.offlineCounter(), 1);
        Checks.due("insertCard()", x.insertCard(), 1);
        Checks.due("offlineCounter()", x.offlineCounter(), 0);
        Checks.due("start: nothing selected", x.start(1, 0), Checks.INVALID_STATE);
        Checks.due("issuer code 0", x.setIssuerCode(0, 0), 0);
        Checks.due("issuer code 1", x.setIssuerCode(1, 0), 0);
        Checks.due("issuer code 2", x.setIssuerCode(2, 0), 0);
    }

    static void promise10ANewCardIsNew() {
        CardTerminal x = Checks.ready();
        x.start(1, 0);
        x.answer(1);
        x.start(1, 0);
        Checks.due("not new", x.verificationResults(), 0);
        Checks.readyAgain(x);
        x.start(1, 0);
        Checks.due("new", x.verificationResults(), 16);
    }

    static void promise10KeepsTheRest() {
        CardTerminal x = Checks.ready();
        x.setFloorLimit(77);
        x.start(7, 0);
        x.answer(2);
        Checks.readyAgain(x);
        Checks.due("reversalCount()", x.reversalCount(), 1);
        Checks.due("verificationResults()", x.verificationResults(), 80);
        Checks.due("outcomeAmount(1)", x.outcomeAmount(1), 7);
        Checks.due("setFloorLimit(1)", x.setFloorLimit(1), 77);
        Checks.due("candidateCount()", x.candidateCount(), 1);
        Checks.due("clearBytes()", x.clearBytes(), 9);
    }

    static void promise10RefusedChangesNothing() {
        CardTerminal x = Checks.readyWithoutCodes();
        x.start(1, 0);
        x.setIssuerCode(2, 9);
        Checks.append(x, 1);
        Checks.due("insertCard(), broken", x.insertCard(), Checks.INVALID_STATE);
        Checks.fill(x, Checks.times(7, Checks.application(aid(1))));
        Checks.due("insertCard(), seven", x.insertCard(), Checks.LIMIT_REACHED);
        Checks.due("offlineCounter()", x.offlineCounter(), 1);
        Checks.due("setIssuerCode(2, 0)", x.setIssuerCode(2, 0), 9);
        Checks.due("priorityOf(1)", x.priorityOf(1), Checks.INVALID_ARGUMENT);
        Checks.due("start: still selected", x.start(1, 0), 1);
        Checks.due("clearBytes()", x.clearBytes(), 63);
    }

    static void promise10WhilePending() {
        CardTerminal x = Checks.ready();
        x.start(1, 0);
        Checks.due("insertCard()", x.insertCard(), Checks.INVALID_STATE);
        Checks.fill(x, Checks.times(7, Checks.application(aid(1))));
        Checks.due("insertCard(), seven", x.insertCard(), Checks.INVALID_STATE);
        x.clearBytes();
        x.answer(0);
        Checks.due("insertCard()", x.insertCard(), 0);
        Checks.due("priorityOf(0)", x.priorityOf(0), Checks.INVALID_ARGUMENT);
    }

    static void promise11PriorityOf() {
        CardTerminal x = Checks.with(Checks.join(Checks.application(4, aid(1)), Checks.application(0x8C, aid(2))));
        Checks.due("priorityOf(0), no card yet", x.priorityOf(0), Checks.INVALID_ARGUMENT);
        x.insertCard();
        Checks.due("priorityOf(0)", x.priorityOf(0), 4);
        Checks.due("priorityOf(1)", x.priorityOf(1), 12);
        Checks.due("priorityOf(2)", x.priorityOf(2), Checks.INVALID_ARGUMENT);
        Checks.due("priorityOf(-1)", x.priorityOf(-1), Checks.INVALID_ARGUMENT);
        Checks.due("priorityOf(MAX)", x.priorityOf(Integer.MAX_VALUE), Checks.INVALID_ARGUMENT);
        Checks.due("priorityOf(MIN)", x.priorityOf(Integer.MIN_VALUE), Checks.INVALID_ARGUMENT);
    }

    static void promise12SetIssuerCode() {
        CardTerminal x = new CardTerminal();
        Checks.due("setIssuerCode(0, 127)", x.setIssuerCode(0, 127), 0);
        Checks.due("setIssuerCode(1, 1)", x.setIssuerCode(1, 1), 0);
        Checks.due("setIssuerCode(2, 2)", x.setIssuerCode(2, 2), 0);
        Checks.due("setIssuerCode(3, 0)", x.setIssuerCode(3, 0), Checks.INVALID_ARGUMENT);
        Checks.due("setIssuerCode(-1, 0)", x.setIssuerCode(-1, 0), Checks.INVALID_ARGUMENT);
        Checks.due("setIssuerCode(0, 128)", x.setIssuerCode(0, 128), Checks.INVALID_ARGUMENT);
        Checks.due("setIssuerCode(0, -1)", x.setIssuerCode(0, -1), Checks.INVALID_ARGUMENT);
        Checks.due("setIssuerCode(MAX, 0)", x.setIssuerCode(Integer.MAX_VALUE, 0), Checks.INVALID_ARGUMENT);
        Checks.due("setIssuerCode(0, 0)", x.setIssuerCode(0, 0), 127);
        Checks.due("setIssuerCode(1, 0)", x.setIssuerCode(1, 0), 1);
        Checks.due("setIssuerCode(2, 0)", x.setIssuerCode(2, 0), 2);
        Checks.due("terminal code 1", x.setTerminalCode(1, 0), 31);
    }
}

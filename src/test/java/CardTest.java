/** A new object, the card and its applications: promises 1 and 10 to 12. The comments quote what is tested. */
final class CardTest {
    private CardTest() {
    }

    private static int[] aid(int first) {
        return Scenes.identifier(first, 5);
    }

    private static int[] name(int first) {
        return Scenes.object(79, aid(first));
    }

    private static int inserted(int... bytes) {
        return Scenes.with(bytes).insertCard();
    }

    private static int[] inTag97(int[]... children) {
        return Scenes.object(97, Scenes.join(children));
    }

    // ---- promise 1

    /** "with an empty byte buffer". */
    static void promise1EmptyBuffer() {
        CardTerminal x = new CardTerminal();
        Checks.due("objectCount()", x.objectCount(), 0);
        Checks.due("appendByte(1)", x.appendByte(1), 1);
        Checks.due("clearBytes()", new CardTerminal().clearBytes(), 0);
    }

    /** "no card application selected". */
    static void promise1NothingSelected() {
        Checks.due("start(1, 0)", new CardTerminal().start(1, 0), Checks.INVALID_STATE);
    }

    /** "no transactions". */
    static void promise1NoTransactions() {
        CardTerminal x = new CardTerminal();
        for (int outcome = 0; outcome <= 3; outcome++) {
            Checks.due("outcomeCount(" + outcome + ")", x.outcomeCount(outcome), 0);
            Checks.due("outcomeAmount(" + outcome + ")", x.outcomeAmount(outcome), 0);
        }
        Checks.due("verificationResults()", x.verificationResults(), Checks.NOT_FOUND);
        Checks.due("answer(0)", x.answer(0), Checks.INVALID_STATE);
    }

    /** "and an empty queue of reversals". */
    static void promise1EmptyQueue() {
        CardTerminal x = new CardTerminal();
        Checks.due("reversalCount()", x.reversalCount(), 0);
        Checks.due("sendReversal(false)", x.sendReversal(false), Checks.INVALID_STATE);
    }

    /** "Initially there is no application". */
    static void promise1NoApplication() {
        CardTerminal x = new CardTerminal();
        Checks.due("priorityOf(0)", x.priorityOf(0), Checks.INVALID_ARGUMENT);
        Checks.due("candidateCount()", x.candidateCount(), 0);
        Checks.due("select(0, true)", x.select(0, true), Checks.INVALID_ARGUMENT);
    }

    /** "the issuer action codes and the counter are 0". */
    static void promise1IssuerCodesAndCounter() {
        CardTerminal x = new CardTerminal();
        for (int number = 0; number < 3; number++) {
            Checks.due("setIssuerCode(" + number + ", 1)", x.setIssuerCode(number, 1), 0);
        }
        Checks.due("offlineCounter()", x.offlineCounter(), 0);
    }

    /** "Initially there is no supported identifier". */
    static void promise1NoIdentifier() {
        CardTerminal x = new CardTerminal();
        Checks.due("removeIdentifier(0)", x.removeIdentifier(0), Checks.INVALID_ARGUMENT);
        Scenes.append(x, aid(1));
        Checks.due("addIdentifier(false)", x.addIdentifier(false), 1);
    }

    /** "the floor limit is 5000, the offline limits are 2 and 4, the random target is 0, the terminal can go online". */
    static void promise1Limits() {
        CardTerminal x = new CardTerminal();
        Checks.due("floor limit", x.setFloorLimit(1), 5000);
        Checks.due("offline limits", x.setOfflineLimits(0, 0), 16 * 2 + 4);
        Checks.due("random target", x.setRandomTarget(1), 0);
        Checks.due("online", x.setOnline(true), 1);
    }

    /** "the terminal action codes are 0 (denial), 31 (online) and 8 (default)". */
    static void promise1TerminalCodes() {
        CardTerminal x = new CardTerminal();
        Checks.due("denial", x.setTerminalCode(0, 1), 0);
        Checks.due("online", x.setTerminalCode(1, 1), 31);
        Checks.due("default", x.setTerminalCode(2, 1), 8);
    }

    /** "Creates a terminal": one of its own, whatever another object has been told. */
    static void promise1ObjectsShareNothing() {
        CardTerminal busy = Scenes.busyPending();
        CardTerminal x = new CardTerminal();
        Checks.due("setTerminalCode(1, 5)", x.setTerminalCode(1, 5), 31);
        Checks.due("setIssuerCode(0, 5)", x.setIssuerCode(0, 5), 0);
        Checks.due("offlineCounter()", x.offlineCounter(), 0);
        Checks.due("reversalCount()", x.reversalCount(), 0);
        Checks.due("clearBytes()", x.clearBytes(), 0);
        Checks.due("the other's setTerminalCode(1, 5)", busy.setTerminalCode(1, 5), 1);
    }

    // ---- promise 10

    /** "Returns the number of applications": none, from an empty buffer. */
    static void promise10EmptyBuffer() {
        Checks.due("insertCard()", new CardTerminal().insertCard(), 0);
        CardTerminal x = Scenes.ready();
        x.clearBytes();
        Checks.due("insertCard()", x.insertCard(), 0);
        Checks.due("priorityOf(0)", x.priorityOf(0), Checks.INVALID_ARGUMENT);
        Checks.due("candidateCount()", x.candidateCount(), 0);
    }

    /** "with the tag number 97 (hexadecimal 61)": with no other. */
    static void promise10OnlyTag97() {
        Checks.due("tag 97", inserted(Scenes.object(97, name(1))), 1);
        for (int tag = 0; tag <= 255; tag++) {
            if (tag != 97 && tag % 32 != 31) {
                Checks.due("tag " + tag, inserted(Scenes.object(tag, name(1))), 0);
            }
        }
        Checks.due("tag 127 97", inserted(Scenes.join(Scenes.bytes(127, 97, 7), name(1))), 0);
    }

    /** "with the tag number 79 (4F)": with no other. */
    static void promise10OnlyChildrenWithTag79() {
        for (int tag = 0; tag <= 255; tag++) {
            if (tag != 79 && tag / 32 % 2 == 0 && tag % 32 != 31) {
                Checks.due("child with tag " + tag, inserted(inTag97(Scenes.object(tag, aid(1)))), 0);
            }
        }
        Checks.due("child with tag 95 79", inserted(inTag97(Scenes.bytes(95, 79, 5, 1, 2, 3, 4, 5))), 0);
    }

    /** "Each data object, of any depth": the deepest that the buffer has room for. */
    static void promise10AnyDepth() {
        int[] bytes = Scenes.application(aid(1));
        for (int level = 0; level < 22; level++) {
            bytes = Scenes.object(level % 2 == 0 ? 112 : 97, bytes);
        }
        CardTerminal x = Scenes.with(bytes);
        Checks.due("objectCount()", x.objectCount(), 24);
        Checks.due("insertCard()", x.insertCard(), 1);
    }

    /** "in the order of the data objects": the outer one before the inner one. */
    static void promise10Order() {
        int[] outer = inTag97(Scenes.application(3, aid(7)), name(8), Scenes.object(135, 2));
        CardTerminal x = Scenes.with(Scenes.join(Scenes.application(1, aid(6)), Scenes.object(112, outer)));
        Checks.due("insertCard()", x.insertCard(), 3);
        Checks.due("priorityOf(0)", x.priorityOf(0), 1);
        Checks.due("priorityOf(1), the outer one", x.priorityOf(1), 2);
        Checks.due("priorityOf(2), the inner one", x.priorityOf(2), 3);
        Checks.due("priorityOf(3)", x.priorityOf(3), Checks.INVALID_ARGUMENT);
    }

    /** "exactly one child with the tag number 79": none. */
    static void promise10NoIdentifier() {
        Checks.due("no children", inserted(97, 0), 0);
        Checks.due("priority only", inserted(inTag97(Scenes.object(135, 1))), 0);
        Checks.due("an identifier on its own", inserted(name(1)), 0);
        Checks.due("an identifier behind", inserted(Scenes.join(Scenes.bytes(97, 0), name(1))), 0);
        Checks.due("an identifier before", inserted(Scenes.join(name(1), Scenes.bytes(97, 0))), 0);
    }

    /** "exactly one child with the tag number 79": two and three. */
    static void promise10TwoIdentifiers() {
        Checks.due("two", inserted(inTag97(name(1), name(2))), 0);
        Checks.due("two alike", inserted(inTag97(name(1), name(1))), 0);
        Checks.due("two, not beside each other", inserted(inTag97(name(1), Scenes.object(135, 1), name(2))), 0);
        Checks.due("three", inserted(inTag97(name(1), name(2), name(3))), 0);
        int[] long16 = Scenes.object(79, Scenes.identifier(1, 16));
        Checks.due("of 5 and of 16 bytes", inserted(inTag97(name(1), long16)), 0);
    }

    /** "exactly one child": a child of a child is none. */
    static void promise10GrandchildIsNoChild() {
        Checks.due("a grandchild alone", inserted(inTag97(Scenes.object(112, name(1)))), 0);
        Checks.due("a child, a grandchild", inserted(inTag97(name(1), Scenes.object(112, name(2)))), 1);
        Checks.due("a grandchild, a child", inserted(inTag97(Scenes.object(112, name(2)), name(1))), 1);
        Checks.due("an application in it", inserted(inTag97(Scenes.application(aid(1)))), 1);
    }

    /** "whose value has 5 to 16 bytes": too short, just enough, just not too long, too long. */
    static void promise10IdentifierLength() {
        for (int length = 0; length <= 20; length++) {
            int want = length >= 5 && length <= 16 ? 1 : 0;
            Checks.due("length " + length, inserted(Scenes.application(Scenes.identifier(1, length))), want);
        }
        Checks.due("length 110", inserted(Scenes.application(Scenes.identifier(1, 110))), 0);
    }

    /** "(children with the tag number 79 whose values have another length are not counted)". */
    static void promise10OtherLengthsAreNotCounted() {
        int[] empty = Scenes.object(79);
        int[] four = Scenes.object(79, Scenes.identifier(1, 4));
        int[] seventeen = Scenes.object(79, Scenes.identifier(1, 17));
        Checks.due("with 4 bytes before", inserted(inTag97(four, name(1))), 1);
        Checks.due("with 4 bytes behind", inserted(inTag97(name(1), four)), 1);
        Checks.due("with 17 bytes before", inserted(inTag97(seventeen, name(1))), 1);
        Checks.due("with 17 bytes behind", inserted(inTag97(name(1), seventeen)), 1);
        Checks.due("with all around", inserted(inTag97(empty, four, name(1), seventeen, empty)), 1);
        Checks.due("these alone", inserted(inTag97(empty, four, seventeen)), 0);
        Checks.due("two among them", inserted(inTag97(four, name(1), seventeen, name(2))), 0);
    }

    /** "the identifier is the value of that child": of the one that is counted. */
    static void promise10TheCountedChildIsTheIdentifier() {
        CardTerminal x = new CardTerminal();
        Scenes.support(x, false, aid(2));
        Scenes.putIn(x, inTag97(Scenes.object(79, 2, 2, 3, 4), name(2)), inTag97(Scenes.object(79, 2, 2, 3, 4), name(3)));
        Checks.due("candidateCount()", x.candidateCount(), 1);
        Checks.due("candidateAt(0)", x.candidateAt(0), 0);
    }

    /** "the identifier is the value of that child": its first and its last byte, of 5 and of 16. */
    static void promise10WholeIdentifier() {
        for (int length : new int[] {5, 16}) {
            int[] identifier = Scenes.identifier(200, length);
            int[] otherFirst = identifier.clone();
            otherFirst[0] = 201;
            int[] otherLast = identifier.clone();
            otherLast[length - 1] = 202;
            CardTerminal x = new CardTerminal();
            Scenes.support(x, false, identifier);
            Scenes.putIn(x, Scenes.application(otherFirst), Scenes.application(otherLast), Scenes.application(identifier));
            Checks.due("candidateCount(), " + length, x.candidateCount(), 1);
            Checks.due("candidateAt(0), " + length, x.candidateAt(0), 2);
        }
    }

    private static int priorityWith(int[]... others) {
        CardTerminal x = Scenes.with(inTag97(name(1), Scenes.join(others)));
        Checks.due("insertCard()", x.insertCard(), 1);
        return x.priorityOf(0);
    }

    /** "the four low bits of this byte of the first such child are the priority": of every byte. */
    static void promise10FourLowBits() {
        for (int value = 0; value <= 255; value++) {
            Checks.due("priority with " + value, priorityWith(Scenes.object(135, value)), value % 16);
        }
    }

    /** "of the first such child". */
    static void promise10FirstPriority() {
        Checks.due("3, then 4", priorityWith(Scenes.object(135, 3), Scenes.object(135, 4)), 3);
        Checks.due("0, then 4", priorityWith(Scenes.object(135, 0), Scenes.object(135, 4)), 0);
    }

    /** "a child with the tag number 135 (87) whose value has one byte": none and two bytes are no priority. */
    static void promise10PriorityOfOtherLength() {
        Checks.due("no byte", priorityWith(Scenes.object(135)), 0);
        Checks.due("two bytes", priorityWith(Scenes.object(135, 3, 3)), 0);
        Checks.due("no byte, then one", priorityWith(Scenes.object(135), Scenes.object(135, 5)), 5);
        Checks.due("two bytes, then one", priorityWith(Scenes.object(135, 3, 3), Scenes.object(135, 4)), 4);
        Checks.due("one byte, then two", priorityWith(Scenes.object(135, 4), Scenes.object(135, 3, 3)), 4);
        Checks.due("one byte behind 129", priorityWith(Scenes.bytes(135, 129, 1, 6)), 6);
    }

    /** "a child with the tag number 135 (87)": with no other tag. */
    static void promise10OnlyPriorityWithTag135() {
        for (int tag : new int[] {7, 134, 136, 71, 199}) {
            Checks.due("tag " + tag, priorityWith(Scenes.object(tag, 5)), 0);
        }
        Checks.due("tag 159 7", priorityWith(Scenes.bytes(159, 7, 1, 5)), 0);
    }

    /** "If the data object has a child": a child of a child, and a neighbour, are none. */
    static void promise10PriorityOfAChild() {
        Checks.due("of a grandchild", priorityWith(Scenes.object(112, Scenes.object(135, 6))), 0);
        CardTerminal x = Scenes.with(Scenes.join(Scenes.application(aid(1)), Scenes.object(135, 6)));
        x.insertCard();
        Checks.due("of a neighbour", x.priorityOf(0), 0);
        CardTerminal y = Scenes.with(inTag97(Scenes.object(135, 9), name(1)));
        y.insertCard();
        Checks.due("before the identifier", y.priorityOf(0), 9);
    }

    /** "otherwise the priority is 0 and no confirmation is needed": also where the card before had one. */
    static void promise10NoPriority() {
        Checks.due("none", priorityWith(), 0);
        CardTerminal x = new CardTerminal();
        Scenes.support(x, false, aid(1));
        Scenes.putIn(x, Scenes.application(0x85, aid(1)));
        Checks.due("priorityOf(0)", x.priorityOf(0), 5);
        Scenes.putIn(x, Scenes.application(aid(1)));
        Checks.due("priorityOf(0) of the new card", x.priorityOf(0), 0);
        Checks.due("select(0, false)", x.select(0, false), 0);
    }

    private static int confirms(int... indicator) {
        CardTerminal x = new CardTerminal();
        Scenes.support(x, false, aid(1));
        Scenes.putIn(x, inTag97(name(1), Scenes.object(135, indicator)));
        return x.select(0, false);
    }

    /** "the application needs confirmation if the highest bit of the byte is 1": of every byte. */
    static void promise10Confirmation() {
        for (int value = 0; value <= 255; value++) {
            Checks.due("select with " + value, confirms(value), value >= 128 ? Checks.INVALID_STATE : 0);
        }
    }

    /** "otherwise [...] no confirmation is needed": bytes of a value of another length don't ask for it. */
    static void promise10NoConfirmation() {
        Checks.due("two bytes", confirms(128, 128), 0);
        Checks.due("no byte", confirms(), 0);
    }

    /** "The card has at most 6 applications, numbered from 0.": just 6. */
    static void promise10SixApplications() {
        CardTerminal x = Scenes.with(Scenes.times(6, Scenes.application(aid(1))));
        Checks.due("six", x.insertCard(), 6);
        Checks.due("priorityOf(0)", x.priorityOf(0), 0);
        Checks.due("priorityOf(5)", x.priorityOf(5), 0);
        Checks.due("priorityOf(6)", x.priorityOf(6), Checks.INVALID_ARGUMENT);
    }

    /** "The card has at most 6 applications": 6 with the longest identifiers, each of them kept whole. */
    static void promise10SixLongIdentifiers() {
        CardTerminal x = Scenes.with(Scenes.times(6, Scenes.application(Scenes.identifier(9, 16))));
        Checks.due("insertCard()", x.insertCard(), 6);
        Scenes.support(x, false, Scenes.identifier(9, 16));
        Checks.due("candidateCount()", x.candidateCount(), 6);
    }

    /** "LIMIT_REACHED if there would be more than 6 applications." */
    static void promise10SevenApplications() {
        int[] seven = Scenes.times(7, Scenes.application(aid(1)));
        Checks.due("seven", inserted(seven), Checks.LIMIT_REACHED);
        Checks.due("twelve", inserted(Scenes.times(12, Scenes.application(aid(1)))), Checks.LIMIT_REACHED);
        Twins.refused("seven", () -> Scenes.busyWith(seven), CardTerminal::insertCard, Checks.LIMIT_REACHED);
        Twins.refused("seven, new object", () -> Scenes.with(seven), CardTerminal::insertCard, Checks.LIMIT_REACHED);
    }

    /** "more than 6 applications": data objects that give none are not counted. */
    static void promise10SixOfSeven() {
        int[] six = Scenes.times(6, Scenes.application(aid(1)));
        Checks.due("six and 97 0", inserted(Scenes.join(six, Scenes.bytes(97, 0))), 6);
        Checks.due("97 0 and six", inserted(Scenes.join(Scenes.bytes(97, 0), six)), 6);
        Checks.due("six in another", inserted(Scenes.object(97, six)), 6);
    }

    /** "INVALID_STATE if there is an error offset". */
    static void promise10Broken() {
        Checks.due("insertCard()", inserted(97, 1), Checks.INVALID_STATE);
        int[] broken = Scenes.join(Scenes.application(aid(1)), Scenes.bytes(1));
        Checks.due("one and an error", inserted(broken), Checks.INVALID_STATE);
        Twins.refused("broken", Scenes::busyBroken, CardTerminal::insertCard, Checks.INVALID_STATE);
    }

    /** "INVALID_STATE if there is an error offset", not LIMIT_REACHED for what was read before it. */
    static void promise10SevenAndBroken() {
        int[] seven = Scenes.times(7, Scenes.application(aid(1)));
        Checks.due("seven, then an error", inserted(Scenes.join(seven, Scenes.bytes(1))), Checks.INVALID_STATE);
        int[] objects = Scenes.join(seven, Scenes.times(11, 1, 0));
        Checks.due("seven, 25 data objects", inserted(objects), Checks.INVALID_STATE);
    }

    /** "INVALID_STATE if [...] a transaction is pending". */
    static void promise10Pending() {
        CardTerminal x = Scenes.pending();
        Checks.due("insertCard()", x.insertCard(), Checks.INVALID_STATE);
        Twins.refused("pending", Scenes::busyPending, CardTerminal::insertCard, Checks.INVALID_STATE);
        x.answer(0);
        Checks.due("insertCard(), answered", x.insertCard(), 1);
    }

    /** "INVALID_STATE rather than LIMIT_REACHED". */
    static void promise10SevenWhilePending() {
        CardTerminal x = Scenes.pending();
        Scenes.fill(x, Scenes.times(7, Scenes.application(aid(1))));
        Checks.due("insertCard()", x.insertCard(), Checks.INVALID_STATE);
        x.answer(0);
        Checks.due("insertCard(), answered", x.insertCard(), Checks.LIMIT_REACHED);
    }

    /** "The card is new". */
    static void promise10TheCardIsNew() {
        CardTerminal x = Scenes.used();
        Scenes.startAs(1, x, 1);
        Checks.due("results", x.verificationResults(), 0);
        Checks.due("insertCard()", x.insertCard(), 1);
        Scenes.choose(x, 0);
        Scenes.startAs(1, x, 1);
        Checks.due("results with the new card", x.verificationResults(), 16);
    }

    /** "its counter of offline transactions [is] 0". */
    static void promise10CounterIsZero() {
        CardTerminal x = Scenes.easy();
        Scenes.startAs(1, x, 1);
        Checks.due("offlineCounter()", x.offlineCounter(), 1);
        Checks.due("insertCard()", x.insertCard(), 1);
        Checks.due("offlineCounter() of the new card", x.offlineCounter(), 0);
    }

    /** "and its issuer action codes are 0". */
    static void promise10IssuerCodesAreZero() {
        CardTerminal x = Scenes.ready();
        for (int number = 0; number < 3; number++) {
            x.setIssuerCode(number, 127);
        }
        x.insertCard();
        for (int number = 0; number < 3; number++) {
            Checks.due("setIssuerCode(" + number + ", 0)", x.setIssuerCode(number, 0), 0);
        }
    }

    /** "and no application is selected". */
    static void promise10NothingSelected() {
        CardTerminal x = Scenes.easy();
        x.insertCard();
        Checks.due("start(1, 0)", x.start(1, 0), Checks.INVALID_STATE);
    }

    /** "The byte buffer is kept." */
    static void promise10KeepsTheBuffer() {
        CardTerminal x = Scenes.with(Scenes.application(aid(1)));
        x.insertCard();
        Checks.due("objectCount()", x.objectCount(), 2);
        Checks.due("insertCard() again", x.insertCard(), 1);
        Checks.due("clearBytes()", x.clearBytes(), 9);
    }

    /** "Puts in a new card": the terminal, the transactions and the queue stay. */
    static void promise10KeepsTheTerminal() {
        CardTerminal x = Scenes.busy();
        Checks.due("insertCard()", x.insertCard(), 6);
        Checks.due("candidateCount()", x.candidateCount(), 5);
        Checks.due("reversalCount()", x.reversalCount(), 2);
        Checks.due("outcomeAmount(0)", x.outcomeAmount(0), 401);
        Checks.due("outcomeCount(2)", x.outcomeCount(2), 1);
        Checks.isTrue("results are kept", x.verificationResults() >= 64);
        Checks.due("setTerminalCode(0, 0)", x.setTerminalCode(0, 0), 64);
        Checks.due("setFloorLimit(0)", x.setFloorLimit(0), 70);
        Checks.due("setOfflineLimits(0, 0)", x.setOfflineLimits(0, 0), 19);
        Checks.due("setRandomTarget(0)", x.setRandomTarget(0), 40);
    }

    /** "Puts in a new card": whether the terminal can go online stays too. */
    static void promise10KeepsOnline() {
        CardTerminal x = Scenes.busyOffline();
        x.insertCard();
        Checks.due("setOnline(false)", x.setOnline(false), 0);
        x.setOnline(true);
        x.insertCard();
        Checks.due("setOnline(true)", x.setOnline(true), 1);
    }

    /** "Puts in a new card": with fewer applications than the one before. */
    static void promise10FewerApplications() {
        CardTerminal x = Scenes.busy();
        Scenes.putIn(x, Scenes.application(7, aid(1)));
        Checks.due("priorityOf(0)", x.priorityOf(0), 7);
        Checks.due("priorityOf(1)", x.priorityOf(1), Checks.INVALID_ARGUMENT);
        Checks.due("candidateCount()", x.candidateCount(), 1);
        Checks.due("candidateAt(1)", x.candidateAt(1), Checks.NOT_FOUND);
    }

    // ---- promise 11

    /** "Returns its priority": from 0 to 15. */
    static void promise11Priority() {
        CardTerminal x = Scenes.with(Scenes.join(Scenes.application(0, aid(1)), Scenes.application(1, aid(1)),
            Scenes.application(15, aid(1)), Scenes.application(0x8C, aid(1))));
        x.insertCard();
        Checks.due("priorityOf(0)", x.priorityOf(0), 0);
        Checks.due("priorityOf(1)", x.priorityOf(1), 1);
        Checks.due("priorityOf(2)", x.priorityOf(2), 15);
        Checks.due("priorityOf(3)", x.priorityOf(3), 12);
    }

    /** "Returns its priority": also if it is no candidate. */
    static void promise11NoCandidate() {
        CardTerminal x = Scenes.with(Scenes.application(4, aid(1)));
        x.insertCard();
        Checks.due("candidateCount()", x.candidateCount(), 0);
        Checks.due("priorityOf(0)", x.priorityOf(0), 4);
    }

    /** "INVALID_ARGUMENT if there is no such application.": too small. */
    static void promise11TooSmall() {
        Checks.due("priorityOf(-1)", Scenes.busy().priorityOf(-1), Checks.INVALID_ARGUMENT);
        Checks.due("priorityOf(MIN)", Scenes.busy().priorityOf(Checks.MIN), Checks.INVALID_ARGUMENT);
        Twins.refused("priorityOf(-1)", Scenes::busyPending, x -> x.priorityOf(-1), Checks.INVALID_ARGUMENT);
    }

    /** "INVALID_ARGUMENT if there is no such application.": too large, of one and of six. */
    static void promise11TooLarge() {
        CardTerminal x = Scenes.with(Scenes.application(4, aid(1)));
        x.insertCard();
        Checks.due("priorityOf(1) of one", x.priorityOf(1), Checks.INVALID_ARGUMENT);
        Checks.due("priorityOf(6) of six", Scenes.busy().priorityOf(6), Checks.INVALID_ARGUMENT);
        Checks.due("priorityOf(MAX)", Scenes.busy().priorityOf(Checks.MAX), Checks.INVALID_ARGUMENT);
        Twins.refused("priorityOf(6)", Scenes::busyPending, y -> y.priorityOf(6), Checks.INVALID_ARGUMENT);
    }

    /** "INVALID_ARGUMENT if there is no such application.": a card without any. */
    static void promise11NoApplications() {
        CardTerminal x = Scenes.with(Scenes.application(4, aid(1)));
        Checks.due("priorityOf(0) before the card is in", x.priorityOf(0), Checks.INVALID_ARGUMENT);
        x.clearBytes();
        x.insertCard();
        Checks.due("priorityOf(0)", x.priorityOf(0), Checks.INVALID_ARGUMENT);
    }

    // ---- promise 12

    /** "number: 0 to 2": just in the range, each code of its own. */
    static void promise12Numbers() {
        CardTerminal x = new CardTerminal();
        Checks.due("setIssuerCode(0, 5)", x.setIssuerCode(0, 5), 0);
        Checks.due("setIssuerCode(1, 6)", x.setIssuerCode(1, 6), 0);
        Checks.due("setIssuerCode(2, 7)", x.setIssuerCode(2, 7), 0);
        Checks.due("setIssuerCode(0, 0)", x.setIssuerCode(0, 0), 5);
        Checks.due("setIssuerCode(1, 0)", x.setIssuerCode(1, 0), 6);
        Checks.due("setIssuerCode(2, 0)", x.setIssuerCode(2, 0), 7);
    }

    /** "number: 0 to 2"; "INVALID_ARGUMENT if an argument is out of range." */
    static void promise12NumberOutOfRange() {
        for (int number : new int[] {-1, 3, Checks.MIN, Checks.MAX}) {
            Twins.refused("setIssuerCode(" + number + ", 1)", Scenes::busy, x -> x.setIssuerCode(number, 1),
                Checks.INVALID_ARGUMENT);
        }
    }

    /** "code: 0 to 127": every code. */
    static void promise12Codes() {
        CardTerminal x = new CardTerminal();
        int before = 0;
        for (int code = 127; code >= 0; code--) {
            Checks.due("setIssuerCode(1, " + code + ")", x.setIssuerCode(1, code), before);
            before = code;
        }
    }

    /** "code: 0 to 127"; "INVALID_ARGUMENT if an argument is out of range." */
    static void promise12CodeOutOfRange() {
        for (int code : new int[] {-1, 128, 255, Checks.MIN, Checks.MAX}) {
            for (int number = 0; number < 3; number++) {
                int one = number;
                Twins.refused("setIssuerCode(" + number + ", " + code + ")", Scenes::busy,
                    x -> x.setIssuerCode(one, code), Checks.INVALID_ARGUMENT);
            }
        }
    }

    /** "Sets an issuer action code of the card.": the terminal's stay as they are. */
    static void promise12TerminalCodesStay() {
        CardTerminal x = new CardTerminal();
        for (int number = 0; number < 3; number++) {
            x.setIssuerCode(number, 100);
        }
        Checks.due("setTerminalCode(0, 0)", x.setTerminalCode(0, 0), 0);
        Checks.due("setTerminalCode(1, 0)", x.setTerminalCode(1, 0), 31);
        Checks.due("setTerminalCode(2, 0)", x.setTerminalCode(2, 0), 8);
    }
}

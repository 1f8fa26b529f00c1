/** The terminal: promises 13 to 19. The comments quote what is tested. */
final class TerminalTest {
    private TerminalTest() {
    }

    private static int[] aid(int first) {
        return Scenes.identifier(first, 5);
    }

    private static void candidates(CardTerminal x, int... want) {
        Checks.due("candidateCount()", x.candidateCount(), want.length);
        for (int i = 0; i < want.length; i++) {
            Checks.due("candidateAt(" + i + ")", x.candidateAt(i), want[i]);
        }
    }

    // ---- promise 13

    private static CardTerminal supporting(int identifiers) {
        CardTerminal x = Scenes.with(255, 255, 255, 255, 255);
        for (int i = 0; i < identifiers; i++) {
            x.addIdentifier(true);
        }
        return x;
    }

    /** "The terminal has at most 5 supported identifiers of 5 to 16 bytes each": each length that is right. */
    static void promise13Lengths() {
        for (int length = 5; length <= 16; length++) {
            CardTerminal x = Scenes.with(Scenes.identifier(1, length));
            Checks.due("addIdentifier(false) of " + length, x.addIdentifier(false), 1);
            Checks.due("addIdentifier(true) of " + length, x.addIdentifier(true), 2);
        }
    }

    /** "INVALID_STATE if the buffer has fewer than 5 [...] bytes". */
    static void promise13TooShort() {
        for (int length = 0; length <= 4; length++) {
            CardTerminal x = Scenes.with(Scenes.identifier(1, length));
            Checks.due("addIdentifier(true) of " + length, x.addIdentifier(true), Checks.INVALID_STATE);
            Checks.due("addIdentifier(false) of " + length, x.addIdentifier(false), Checks.INVALID_STATE);
        }
    }

    /** "INVALID_STATE if the buffer has [...] more than 16 bytes". */
    static void promise13TooLong() {
        for (int length : new int[] {17, 18, 32, 119, 120}) {
            CardTerminal x = Scenes.with(Scenes.identifier(1, length));
            Checks.due("addIdentifier(true) of " + length, x.addIdentifier(true), Checks.INVALID_STATE);
            Checks.due("addIdentifier(false) of " + length, x.addIdentifier(false), Checks.INVALID_STATE);
        }
    }

    /** "A call that returns an error changes nothing.": an identifier of a wrong length. */
    static void promise13WrongLengthChangesNothing() {
        int[] four = Scenes.identifier(1, 4);
        int[] seventeen = Scenes.identifier(1, 17);
        for (boolean partial : new boolean[] {false, true}) {
            Twins.refused("of 4", () -> fourIdentifiers(four), x -> x.addIdentifier(partial), Checks.INVALID_STATE);
            Twins.refused("of 17", () -> fourIdentifiers(seventeen), x -> x.addIdentifier(partial),
                Checks.INVALID_STATE);
        }
        Twins.refused("of 0", CardTerminal::new, x -> x.addIdentifier(false), Checks.INVALID_STATE);
    }

    private static CardTerminal fourIdentifiers(int... buffer) {
        CardTerminal x = Scenes.busyWith(buffer);
        x.removeIdentifier(4);
        return x;
    }

    /** "Returns the new number of supported identifiers": up to 5. */
    static void promise13AtMostFive() {
        CardTerminal x = Scenes.with(aid(1));
        for (int number = 1; number <= 5; number++) {
            Checks.due("addIdentifier", x.addIdentifier(true), number);
        }
    }

    /** "LIMIT_REACHED if there are 5 supported identifiers." */
    static void promise13Full() {
        CardTerminal x = supporting(5);
        Checks.due("addIdentifier(true)", x.addIdentifier(true), Checks.LIMIT_REACHED);
        Checks.due("addIdentifier(false)", x.addIdentifier(false), Checks.LIMIT_REACHED);
        Checks.due("removeIdentifier(5)", x.removeIdentifier(5), Checks.INVALID_ARGUMENT);
    }

    /** "A call that returns an error changes nothing.": a sixth identifier, with the flag and without it. */
    static void promise13FullChangesNothing() {
        int[] sixth = Scenes.identifier(9, 5);
        for (boolean partial : new boolean[] {false, true}) {
            Twins.refused("a sixth", () -> Scenes.busyWith(sixth), x -> x.addIdentifier(partial), Checks.LIMIT_REACHED);
            Twins.refused("a sixth", () -> supporting(5), x -> x.addIdentifier(partial), Checks.LIMIT_REACHED);
            Twins.refused("a sixth", () -> fiveWith(sixth), x -> x.addIdentifier(partial), Checks.LIMIT_REACHED);
        }
    }

    private static CardTerminal fiveWith(int... buffer) {
        CardTerminal x = five();
        Scenes.fill(x, buffer);
        return x;
    }

    /** "LIMIT_REACHED if there are 5": there is room again when one is removed. */
    static void promise13RoomAgain() {
        CardTerminal x = supporting(5);
        for (int round = 0; round < 10; round++) {
            Checks.due("removeIdentifier", x.removeIdentifier(round % 5), 4);
            Checks.due("addIdentifier", x.addIdentifier(round % 2 == 0), 5);
            Checks.due("addIdentifier to 5", x.addIdentifier(true), Checks.LIMIT_REACHED);
        }
    }

    /** "INVALID_STATE rather than LIMIT_REACHED". */
    static void promise13WrongLengthAndFull() {
        CardTerminal x = supporting(5);
        Scenes.fill(x, 1, 2, 3, 4);
        Checks.due("of 4 bytes, to 5", x.addIdentifier(true), Checks.INVALID_STATE);
        Scenes.fill(x, Scenes.identifier(1, 17));
        Checks.due("of 17 bytes, to 5", x.addIdentifier(true), Checks.INVALID_STATE);
    }

    /** "Adds the content of the byte buffer": also if it is no sequence of data objects. */
    static void promise13AnyBytes() {
        CardTerminal x = Scenes.with(255, 255, 255, 255, 255);
        Checks.due("errorOffset()", x.errorOffset(), 1);
        Checks.due("addIdentifier(false)", x.addIdentifier(false), 1);
        Scenes.putIn(x, Scenes.application(255, 255, 255, 255, 255));
        candidates(x, 0);
    }

    /** "Adds the content of the byte buffer": as it is at the call. */
    static void promise13TakesTheContentAtOnce() {
        CardTerminal x = Scenes.with(aid(1));
        x.addIdentifier(false);
        Scenes.fill(x, Scenes.identifier(2, 6));
        Scenes.putIn(x, Scenes.application(aid(1)), Scenes.application(Scenes.identifier(2, 6)));
        candidates(x, 0);
    }

    /** "as a supported identifier behind the others". */
    static void promise13BehindTheOthers() {
        CardTerminal x = five();
        x.removeIdentifier(0);
        Scenes.fill(x, Scenes.identifier(10, 5));
        Checks.due("addIdentifier(true)", x.addIdentifier(true), 5);
        candidates(x, 0, 1, 2, 3, 4);
        Checks.due("removeIdentifier(4)", x.removeIdentifier(4), 4);
        candidates(x, 1, 2, 3, 4);
    }

    /** "The byte buffer is kept." */
    static void promise13KeepsTheBuffer() {
        CardTerminal x = Scenes.with(1, 3, 7, 7, 7);
        x.addIdentifier(true);
        Checks.due("objectCount()", x.objectCount(), 1);
        Checks.due("addIdentifier(false)", x.addIdentifier(false), 2);
        Checks.due("clearBytes()", x.clearBytes(), 5);
    }

    /** "partial: true if it has the flag for partial selection". */
    static void promise13Flag() {
        int[] longer = Scenes.identifier(1, 6);
        CardTerminal x = new CardTerminal();
        Scenes.support(x, false, aid(1));
        Scenes.putIn(x, Scenes.application(longer));
        candidates(x);
        Scenes.support(x, true, aid(1));
        candidates(x, 0);
    }

    // ---- promise 14

    /** Five identifiers of different lengths, the second and the fourth partial, and a card with each of them. */
    private static CardTerminal five() {
        CardTerminal x = new CardTerminal();
        int[][] applications = new int[5][];
        for (int i = 0; i < 5; i++) {
            Scenes.support(x, i % 2 == 1, Scenes.identifier(10 + i, 5 + i));
            applications[i] = Scenes.application(i + 1, Scenes.identifier(10 + i, 5 + i));
        }
        Scenes.putIn(x, applications);
        return x;
    }

    /** Like five(), with a card whose identifiers are longer, so that only the partial ones support them. */
    private static CardTerminal fiveForLonger() {
        CardTerminal x = five();
        int[][] longer = new int[5][];
        for (int i = 0; i < 5; i++) {
            longer[i] = Scenes.application(Scenes.join(Scenes.identifier(10 + i, 5 + i), Scenes.bytes(99)));
        }
        Scenes.putIn(x, longer);
        return x;
    }

    /** "Returns the new number of supported identifiers": down to 0. */
    static void promise14NewNumber() {
        CardTerminal x = supporting(5);
        for (int number = 4; number >= 0; number--) {
            Checks.due("removeIdentifier(0)", x.removeIdentifier(0), number);
        }
        Checks.due("removeIdentifier(0) of none", x.removeIdentifier(0), Checks.INVALID_ARGUMENT);
    }

    /** "those behind it move down by one": behind the first. */
    static void promise14RemoveTheFirst() {
        CardTerminal x = five();
        x.removeIdentifier(0);
        candidates(x, 1, 2, 3, 4);
        x.removeIdentifier(0);
        candidates(x, 2, 3, 4);
        x.removeIdentifier(0);
        candidates(x, 3, 4);
        x.removeIdentifier(0);
        candidates(x, 4);
        x.removeIdentifier(0);
        candidates(x);
    }

    /** "those behind it move down by one": none is behind the last. */
    static void promise14RemoveTheLast() {
        CardTerminal x = five();
        Checks.due("removeIdentifier(4)", x.removeIdentifier(4), 4);
        candidates(x, 0, 1, 2, 3);
        Checks.due("removeIdentifier(4)", x.removeIdentifier(4), Checks.INVALID_ARGUMENT);
        Checks.due("removeIdentifier(3)", x.removeIdentifier(3), 3);
        candidates(x, 0, 1, 2);
    }

    /** "those behind it move down by one": behind one between others. */
    static void promise14RemoveBetween() {
        CardTerminal x = five();
        x.removeIdentifier(2);
        candidates(x, 0, 1, 3, 4);
        x.removeIdentifier(2);
        candidates(x, 0, 1, 4);
        x.removeIdentifier(1);
        candidates(x, 0, 4);
    }

    /** "those behind it move down by one": with their flags. */
    static void promise14FlagsMoveDown() {
        CardTerminal x = fiveForLonger();
        candidates(x, 1, 3);
        x.removeIdentifier(0);
        candidates(x, 1, 3);
        x.removeIdentifier(0);
        candidates(x, 3);
        x.removeIdentifier(0);
        candidates(x, 3);
        x.removeIdentifier(0);
        candidates(x);
    }

    /** "those behind it move down by one": a flag stays with its identifier when the last ones go. */
    static void promise14FlagsStay() {
        CardTerminal x = fiveForLonger();
        x.removeIdentifier(4);
        x.removeIdentifier(2);
        candidates(x, 1, 3);
        x.removeIdentifier(2);
        candidates(x, 1);
    }

    /** "INVALID_ARGUMENT if there is no such identifier.": too small. */
    static void promise14TooSmall() {
        Twins.refused("removeIdentifier(-1)", Scenes::busy, x -> x.removeIdentifier(-1), Checks.INVALID_ARGUMENT);
        Twins.refused("removeIdentifier(MIN)", Scenes::busy, x -> x.removeIdentifier(Checks.MIN),
            Checks.INVALID_ARGUMENT);
    }

    /** "INVALID_ARGUMENT if there is no such identifier.": too large, of five, of four. */
    static void promise14TooLarge() {
        Twins.refused("removeIdentifier(5)", Scenes::busy, x -> x.removeIdentifier(5), Checks.INVALID_ARGUMENT);
        Twins.refused("removeIdentifier(MAX)", Scenes::busy, x -> x.removeIdentifier(Checks.MAX),
            Checks.INVALID_ARGUMENT);
        Twins.refused("removeIdentifier(4) of four", () -> fourIdentifiers(1, 2, 3),
            x -> x.removeIdentifier(4), Checks.INVALID_ARGUMENT);
    }

    /** "INVALID_ARGUMENT if there is no such identifier.": there is none at all. */
    static void promise14None() {
        Twins.refused("removeIdentifier(0)", CardTerminal::new, x -> x.removeIdentifier(0), Checks.INVALID_ARGUMENT);
    }

    // ---- promise 15

    /** "number: 0 to 2": just in the range, each code of its own. */
    static void promise15Numbers() {
        CardTerminal x = new CardTerminal();
        Checks.due("setTerminalCode(0, 5)", x.setTerminalCode(0, 5), 0);
        Checks.due("setTerminalCode(1, 6)", x.setTerminalCode(1, 6), 31);
        Checks.due("setTerminalCode(2, 7)", x.setTerminalCode(2, 7), 8);
        Checks.due("setTerminalCode(0, 0)", x.setTerminalCode(0, 0), 5);
        Checks.due("setTerminalCode(1, 0)", x.setTerminalCode(1, 0), 6);
        Checks.due("setTerminalCode(2, 0)", x.setTerminalCode(2, 0), 7);
    }

    /** "number: 0 to 2"; "INVALID_ARGUMENT if an argument is out of range." */
    static void promise15NumberOutOfRange() {
        for (int number : new int[] {-1, 3, Checks.MIN, Checks.MAX}) {
            Twins.refused("setTerminalCode(" + number + ", 1)", Scenes::busy, x -> x.setTerminalCode(number, 1),
                Checks.INVALID_ARGUMENT);
        }
    }

    /** "code: 0 to 127": every code. */
    static void promise15Codes() {
        CardTerminal x = new CardTerminal();
        int before = 31;
        for (int code = 127; code >= 0; code--) {
            Checks.due("setTerminalCode(1, " + code + ")", x.setTerminalCode(1, code), before);
            before = code;
        }
    }

    /** "code: 0 to 127"; "INVALID_ARGUMENT if an argument is out of range." */
    static void promise15CodeOutOfRange() {
        for (int code : new int[] {-1, 128, 255, Checks.MIN, Checks.MAX}) {
            for (int number = 0; number < 3; number++) {
                int one = number;
                Twins.refused("setTerminalCode(" + number + ", " + code + ")", Scenes::busy,
                    x -> x.setTerminalCode(one, code), Checks.INVALID_ARGUMENT);
            }
        }
    }

    /** "Sets a terminal action code.": the issuer's stay as they are, and a new card changes none. */
    static void promise15IssuerCodesStay() {
        CardTerminal x = new CardTerminal();
        Scenes.codes(x, 100, 101, 102);
        for (int number = 0; number < 3; number++) {
            Checks.due("setIssuerCode(" + number + ", 0)", x.setIssuerCode(number, 0), 0);
        }
        x.insertCard();
        for (int number = 0; number < 3; number++) {
            Checks.due("setTerminalCode(" + number + ", 0)", x.setTerminalCode(number, 0), 100 + number);
        }
    }

    // ---- promise 16

    /** "limit: 0 to 99999": the least and the largest; "Returns the previous floor limit". */
    static void promise16Range() {
        CardTerminal x = new CardTerminal();
        Checks.due("setFloorLimit(0)", x.setFloorLimit(0), 5000);
        Checks.due("setFloorLimit(99999)", x.setFloorLimit(99999), 0);
        Checks.due("setFloorLimit(1)", x.setFloorLimit(1), 99999);
        Checks.due("setFloorLimit(1)", x.setFloorLimit(1), 1);
    }

    /** "INVALID_ARGUMENT if limit is out of range.": too small. */
    static void promise16TooSmall() {
        for (int limit : new int[] {-1, Checks.MIN}) {
            Twins.refused("setFloorLimit(" + limit + ")", Scenes::busy, x -> x.setFloorLimit(limit),
                Checks.INVALID_ARGUMENT);
        }
    }

    /** "INVALID_ARGUMENT if limit is out of range.": too large. */
    static void promise16TooLarge() {
        for (int limit : new int[] {100000, Checks.MAX}) {
            Twins.refused("setFloorLimit(" + limit + ")", Scenes::busy, x -> x.setFloorLimit(limit),
                Checks.INVALID_ARGUMENT);
        }
    }

    // ---- promise 17

    /** "lower: 0 to 15"; "upper: lower to 15": every pair; "16 times the previous lower limit plus the previous upper". */
    static void promise17Range() {
        CardTerminal x = new CardTerminal();
        int before = 36;
        for (int lower = 0; lower <= 15; lower++) {
            for (int upper = lower; upper <= 15; upper++) {
                Checks.due("setOfflineLimits(" + lower + ", " + upper + ")", x.setOfflineLimits(lower, upper), before);
                before = 16 * lower + upper;
            }
        }
        Checks.due("the last ones", x.setOfflineLimits(0, 0), 255);
    }

    private static void refusedLimits(int lower, int upper) {
        Twins.refused("setOfflineLimits(" + lower + ", " + upper + ")", Scenes::busy,
            x -> x.setOfflineLimits(lower, upper), Checks.INVALID_ARGUMENT);
    }

    /** "lower: 0 to 15": too small. */
    static void promise17LowerTooSmall() {
        refusedLimits(-1, 2);
        refusedLimits(-1, -1);
        refusedLimits(Checks.MIN, 15);
    }

    /** "lower: 0 to 15": too large. */
    static void promise17LowerTooLarge() {
        refusedLimits(16, 16);
        refusedLimits(16, 15);
        refusedLimits(Checks.MAX, Checks.MAX);
    }

    /** "upper: lower to 15": too small, less than lower by one and by more. */
    static void promise17UpperTooSmall() {
        for (int lower = 1; lower <= 15; lower++) {
            CardTerminal x = new CardTerminal();
            Checks.due("lower " + lower, x.setOfflineLimits(lower, lower - 1), Checks.INVALID_ARGUMENT);
            Checks.due("lower " + lower, x.setOfflineLimits(lower, 0), Checks.INVALID_ARGUMENT);
        }
        refusedLimits(3, 2);
        refusedLimits(0, -1);
        refusedLimits(0, Checks.MIN);
    }

    /** "upper: lower to 15": too large. */
    static void promise17UpperTooLarge() {
        refusedLimits(0, 16);
        refusedLimits(15, 16);
        refusedLimits(0, Checks.MAX);
        refusedLimits(Checks.MIN, Checks.MAX);
    }

    // ---- promise 18

    /** "target: 0 to 100": every target; "Returns the previous random target". */
    static void promise18Range() {
        CardTerminal x = new CardTerminal();
        int before = 0;
        for (int target = 100; target >= 0; target--) {
            Checks.due("setRandomTarget(" + target + ")", x.setRandomTarget(target), before);
            before = target;
        }
    }

    /** "INVALID_ARGUMENT if target is out of range.": too small. */
    static void promise18TooSmall() {
        for (int target : new int[] {-1, Checks.MIN}) {
            Twins.refused("setRandomTarget(" + target + ")", Scenes::busy, x -> x.setRandomTarget(target),
                Checks.INVALID_ARGUMENT);
        }
    }

    /** "INVALID_ARGUMENT if target is out of range.": too large. */
    static void promise18TooLarge() {
        for (int target : new int[] {101, Checks.MAX}) {
            Twins.refused("setRandomTarget(" + target + ")", Scenes::busy, x -> x.setRandomTarget(target),
                Checks.INVALID_ARGUMENT);
        }
    }

    // ---- promise 19

    /** "Returns 1 if it could before, 0 if not." */
    static void promise19Before() {
        CardTerminal x = new CardTerminal();
        Checks.due("setOnline(true)", x.setOnline(true), 1);
        Checks.due("setOnline(false)", x.setOnline(false), 1);
        Checks.due("setOnline(false)", x.setOnline(false), 0);
        Checks.due("setOnline(true)", x.setOnline(true), 0);
        Checks.due("setOnline(true)", x.setOnline(true), 1);
    }

    /** "A pending transaction stays pending.": whichever way it is told. */
    static void promise19PendingStaysPending() {
        for (boolean online : new boolean[] {false, true}) {
            CardTerminal x = Scenes.pending();
            Checks.due("setOnline(" + online + ")", x.setOnline(online), 1);
            Checks.due("outcomeCount(3)", x.outcomeCount(3), 1);
            Checks.due("outcomeAmount(3)", x.outcomeAmount(3), 10);
            Checks.due("start(5, 0)", x.start(5, 0), Checks.INVALID_STATE);
            Checks.due("answer(1)", x.answer(1), 2);
        }
    }
}

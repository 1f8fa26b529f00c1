/** The byte buffer: promises 2 and 3. The comments quote the sentence of the document that the test is for. */
final class BufferTest {
    private BufferTest() {
    }

    private static CardTerminal full() {
        return Scenes.with(Scenes.times(60, 1, 0));
    }

    /** "value: 0 to 255"; "INVALID_ARGUMENT if value is out of range": too small. */
    static void promise2ValueTooSmall() {
        CardTerminal x = new CardTerminal();
        Checks.due("appendByte(-1)", x.appendByte(-1), Checks.INVALID_ARGUMENT);
        Checks.due("appendByte(-256)", x.appendByte(-256), Checks.INVALID_ARGUMENT);
        Checks.due("appendByte(MIN)", x.appendByte(Checks.MIN), Checks.INVALID_ARGUMENT);
        Checks.due("clearBytes()", x.clearBytes(), 0);
    }

    /** "value: 0 to 255"; "INVALID_ARGUMENT if value is out of range": too large. */
    static void promise2ValueTooLarge() {
        CardTerminal x = new CardTerminal();
        Checks.due("appendByte(256)", x.appendByte(256), Checks.INVALID_ARGUMENT);
        Checks.due("appendByte(512)", x.appendByte(512), Checks.INVALID_ARGUMENT);
        Checks.due("appendByte(MAX)", x.appendByte(Checks.MAX), Checks.INVALID_ARGUMENT);
        Checks.due("clearBytes()", x.clearBytes(), 0);
    }

    /** "value: 0 to 255": the least value. */
    static void promise2LeastValue() {
        CardTerminal x = new CardTerminal();
        Checks.due("appendByte(0)", x.appendByte(0), 1);
        Checks.due("appendByte(0)", x.appendByte(0), 2);
        Checks.due("objectTag(0)", x.objectTag(0), 0);
        Checks.due("objectLength(0)", x.objectLength(0), 0);
    }

    /** "value: 0 to 255": the largest value. */
    static void promise2LargestValue() {
        CardTerminal x = new CardTerminal();
        Checks.due("appendByte(255)", x.appendByte(255), 1);
        Checks.due("appendByte(1)", x.appendByte(1), 2);
        Checks.due("appendByte(0)", x.appendByte(0), 3);
        Checks.due("objectTag(0)", x.objectTag(0), 256 * 255 + 1);
    }

    /** "Appends a byte to the byte buffer.": each value is kept as it is. */
    static void promise2EveryValueIsKept() {
        for (int value = 0; value <= 255; value++) {
            CardTerminal x = Scenes.with(0, 3, 9, 9, 9, 31, value % 128, 0);
            Checks.due("objectTag(1) of 31 " + value % 128, x.objectTag(1), 31 * 256 + value % 128);
            CardTerminal y = new CardTerminal();
            Scenes.support(y, false, 1, 2, 3, 4, value);
            Scenes.putIn(y, Scenes.application(1, 2, 3, 4, value), Scenes.application(1, 2, 3, 4, value ^ 1),
                Scenes.application(1, 2, 3, 4, value ^ 128));
            Checks.due("candidateCount() with " + value, y.candidateCount(), 1);
            Checks.due("candidateAt(0) with " + value, y.candidateAt(0), 0);
        }
    }

    /** "Returns the new number of bytes". */
    static void promise2NewNumber() {
        CardTerminal x = new CardTerminal();
        for (int number = 1; number <= 120; number++) {
            Checks.due("append of byte " + number, x.appendByte(number), number);
        }
    }

    /** "The byte buffer holds at most 120 bytes."; "LIMIT_REACHED if the buffer has 120 bytes." */
    static void promise2Full() {
        CardTerminal x = new CardTerminal();
        Scenes.append(x, Scenes.zeros(119));
        Checks.due("appendByte(7) to 119", x.appendByte(7), 120);
        Checks.due("appendByte(0) to 120", x.appendByte(0), Checks.LIMIT_REACHED);
        Checks.due("appendByte(255) to 120", x.appendByte(255), Checks.LIMIT_REACHED);
        Checks.due("clearBytes()", x.clearBytes(), 120);
    }

    /** "The byte buffer holds at most 120 bytes.": the 120th is kept too. */
    static void promise2The120thByteIsKept() {
        CardTerminal x = Scenes.with(Scenes.join(Scenes.object(4, Scenes.zeros(115)), Scenes.bytes(31, 77)));
        Checks.due("appendByte(0)", x.appendByte(0), 120);
        Checks.due("errorOffset()", x.errorOffset(), Checks.NOT_FOUND);
        Checks.due("objectTag(1)", x.objectTag(1), 31 * 256 + 77);
        CardTerminal y = Scenes.with(Scenes.join(Scenes.object(4, Scenes.zeros(115)), Scenes.bytes(31, 77)));
        Checks.due("appendByte(128)", y.appendByte(128), 120);
        Checks.due("errorOffset()", y.errorOffset(), 119);
    }

    /** "A call that returns an error changes nothing.": appendByte with a value out of range. */
    static void promise2WrongValueChangesNothing() {
        Twins.refused("appendByte(-1)", Scenes::busy, x -> x.appendByte(-1), Checks.INVALID_ARGUMENT);
        Twins.refused("appendByte(256)", Scenes::busy, x -> x.appendByte(256), Checks.INVALID_ARGUMENT);
        Twins.refused("appendByte(-1), empty", CardTerminal::new, x -> x.appendByte(-1), Checks.INVALID_ARGUMENT);
    }

    /** "A call that returns an error changes nothing.": appendByte to a full buffer. */
    static void promise2FullChangesNothing() {
        int[] last = Scenes.join(Scenes.object(4, Scenes.zeros(116)), Scenes.bytes(3, 0));
        Twins.refused("appendByte(1) to 120", () -> Scenes.busyWith(last), x -> x.appendByte(1),
            Checks.LIMIT_REACHED);
        int[] first = Scenes.join(Scenes.bytes(3, 0), Scenes.object(4, Scenes.zeros(116)));
        Twins.refused("appendByte(1) to 120", () -> Scenes.with(first), x -> x.appendByte(1), Checks.LIMIT_REACHED);
    }

    /** "INVALID_ARGUMENT is returned rather than [...] LIMIT_REACHED". */
    static void promise2WrongValueToFullBuffer() {
        Checks.due("appendByte(256) to 120", full().appendByte(256), Checks.INVALID_ARGUMENT);
        Checks.due("appendByte(-1) to 120", full().appendByte(-1), Checks.INVALID_ARGUMENT);
    }

    /** "Returns the number of bytes that it had.": empty. */
    static void promise3Empty() {
        CardTerminal x = new CardTerminal();
        Checks.due("clearBytes()", x.clearBytes(), 0);
        Checks.due("clearBytes() again", x.clearBytes(), 0);
    }

    /** "Returns the number of bytes that it had.": one, some, and full. */
    static void promise3NumberOfBytes() {
        for (int number : new int[] {1, 2, 3, 119, 120}) {
            Checks.due("clearBytes() of " + number, Scenes.with(Scenes.zeros(number)).clearBytes(), number);
        }
    }

    /** "Empties the byte buffer." */
    static void promise3Empties() {
        CardTerminal x = Scenes.with(1, 2, 3);
        x.clearBytes();
        Checks.due("clearBytes() again", x.clearBytes(), 0);
        Checks.due("errorOffset()", x.errorOffset(), Checks.NOT_FOUND);
        Checks.due("objectCount()", x.objectCount(), 0);
        Checks.due("appendByte(5)", x.appendByte(5), 1);
    }

    /** "Empties the byte buffer.": a full one has room for 120 again, and nothing is left of what it had. */
    static void promise3FullAndFullAgain() {
        CardTerminal x = full();
        x.clearBytes();
        Scenes.append(x, Scenes.join(Scenes.object(4, Scenes.zeros(116)), Scenes.bytes(3, 0)));
        Checks.due("appendByte(0) to 120", x.appendByte(0), Checks.LIMIT_REACHED);
        Checks.due("objectCount()", x.objectCount(), 2);
        Checks.due("objectTag(0)", x.objectTag(0), 4);
        Checks.due("objectTag(1)", x.objectTag(1), 3);
    }

    /** "Empties the byte buffer.": and nothing else. */
    static void promise3KeepsTheRest() {
        CardTerminal x = Scenes.busyPending();
        x.clearBytes();
        Checks.due("candidateCount()", x.candidateCount(), 5);
        Checks.due("priorityOf(0)", x.priorityOf(0), 3);
        Checks.due("outcomeAmount(3)", x.outcomeAmount(3), 300);
        Checks.due("reversalCount()", x.reversalCount(), 2);
        Checks.due("removeIdentifier(0)", x.removeIdentifier(0), 4);
        Checks.due("setFloorLimit(0)", x.setFloorLimit(0), 70);
    }
}

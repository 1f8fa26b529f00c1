import java.util.Arrays;

/** The rules of 'Data objects' as errorOffset tells them: promise 4. The comments quote the rule that is tested. */
final class ReadingTest {
    private ReadingTest() {
    }

    private static void breaks(int want, int... bytes) {
        CardTerminal x = Scenes.with(bytes);
        Checks.due(Arrays.toString(bytes) + ": errorOffset()", x.errorOffset(), want);
    }

    private static void reads(int objects, int... bytes) {
        CardTerminal x = Scenes.with(bytes);
        String what = Arrays.toString(bytes);
        Checks.due(what + ": errorOffset()", x.errorOffset(), Checks.NOT_FOUND);
        Checks.due(what + ": objectCount()", x.objectCount(), objects);
    }

    private static boolean hasSecondByte(int first) {
        return first % 32 == 31;
    }

    private static boolean isConstructed(int first) {
        return first / 32 % 2 == 1;
    }

    /** "NOT_FOUND if the buffer is a sequence of data objects (an empty buffer is)." */
    static void promise4EmptyBuffer() {
        Checks.due("errorOffset()", new CardTerminal().errorOffset(), Checks.NOT_FOUND);
        CardTerminal x = Scenes.with(1);
        x.clearBytes();
        Checks.due("errorOffset() after clearing", x.errorOffset(), Checks.NOT_FOUND);
    }

    /** "It is read as a sequence of data objects." */
    static void promise4Sequence() {
        reads(1, 1, 0);
        reads(2, 1, 0, 2, 0);
        reads(3, 1, 1, 9, 2, 0, 3, 2, 8, 8);
    }

    /** "The tag is one byte, or two bytes if the five low bits of its first byte are all 1": every first byte. */
    static void promise4TagsOfOneAndTwoBytes() {
        for (int first = 0; first <= 255; first++) {
            if (hasSecondByte(first)) {
                breaks(2, first, 0);
                reads(1, first, 5, 0);
            } else {
                reads(1, first, 0);
            }
        }
    }

    /** "the second byte of such a tag must be less than 128": the least and the largest one. */
    static void promise4SecondByteOfATagAllowed() {
        for (int second = 0; second <= 127; second++) {
            reads(1, 31, second, 0);
        }
    }

    /** "the second byte of such a tag must be less than 128"; "the offset of the second byte of a tag, if it is 128 or more". */
    static void promise4SecondByteOfATagTooLarge() {
        for (int second = 128; second <= 255; second++) {
            breaks(1, 31, second, 0);
        }
        breaks(1, 31, 128);
        breaks(3, 1, 0, 63, 200, 0);
        breaks(3, 97, 3, 63, 128, 0);
    }

    /** "The length is one byte from 0 to 127": the least one. */
    static void promise4LengthZero() {
        reads(1, 1, 0);
        reads(1, 31, 5, 0);
        reads(1, 97, 0);
    }

    /** "The length is one byte from 0 to 127": each that the buffer has room for, with a byte too few and one too many. */
    static void promise4LengthOfOneByte() {
        for (int length = 0; length <= 118; length++) {
            reads(1, Scenes.object(1, Scenes.zeros(length)));
            if (length > 0) {
                breaks(1, Scenes.join(Scenes.bytes(1, length), Scenes.zeros(length - 1)));
            }
            if (length < 118) {
                breaks(length + 3, Scenes.join(Scenes.object(1, Scenes.zeros(length)), Scenes.bytes(1)));
            }
        }
    }

    /** "if the value would extend beyond the end": the lengths up to 127 for which the buffer has no room. */
    static void promise4LengthOfOneByteWithoutRoom() {
        for (int length = 119; length <= 127; length++) {
            breaks(1, Scenes.join(Scenes.bytes(1, length), Scenes.zeros(118)));
        }
    }

    /** "or the byte 129 followed by one byte, which is the length (0 to 255)": each that the buffer has room for. */
    static void promise4LengthOfTwoBytes() {
        for (int length = 0; length <= 117; length++) {
            reads(1, Scenes.join(Scenes.bytes(1, 129, length), Scenes.zeros(length)));
            if (length > 0) {
                breaks(1, Scenes.join(Scenes.bytes(1, 129, length), Scenes.zeros(length - 1)));
            }
        }
    }

    /** "the offset of the first byte of a length, [...] if the value would extend beyond the end": 118 to 255 behind 129. */
    static void promise4LengthOfTwoBytesWithoutRoom() {
        for (int length = 118; length <= 255; length++) {
            breaks(1, Scenes.join(Scenes.bytes(1, 129, length), Scenes.zeros(117)));
        }
        breaks(1, 1, 129, 255);
    }

    /** "No other first byte of a length is allowed."; "the offset of the first byte of a length, if it is not allowed". */
    static void promise4LengthNotAllowed() {
        for (int length = 128; length <= 255; length++) {
            if (length != 129) {
                breaks(1, 1, length);
                breaks(1, 1, length, 0);
                breaks(1, 1, length, 0, 0);
                breaks(2, 31, 5, length, 0);
                breaks(4, 2, 1, 7, 97, length, 0);
                breaks(3, 97, 3, 1, length, 0);
            }
        }
    }

    /** "The value has as many bytes as the length says.": the next data object begins behind them. */
    static void promise4ValueIsPassedOver() {
        CardTerminal x = Scenes.with(1, 4, 31, 255, 255, 255, 2, 129, 2, 31, 255, 3, 0);
        Checks.due("objectCount()", x.objectCount(), 3);
        Checks.due("objectTag(1)", x.objectTag(1), 2);
        Checks.due("objectTag(2)", x.objectTag(2), 3);
    }

    /** "A data object is constructed if bit 5 (the value 32) of the first byte of its tag is 1": every first byte. */
    static void promise4ConstructedByBit5() {
        for (int first = 0; first <= 255; first++) {
            int[] tag = hasSecondByte(first) ? Scenes.bytes(first, 5) : Scenes.bytes(first);
            int[] noSequence = Scenes.join(tag, Scenes.bytes(1, 1));
            int[] sequence = Scenes.join(tag, Scenes.bytes(2, 1, 0));
            if (isConstructed(first)) {
                breaks(noSequence.length, noSequence);
                reads(2, sequence);
            } else {
                reads(1, noSequence);
                reads(1, sequence);
            }
        }
    }

    /** "bit 5 (the value 32) of the first byte of its tag": not of the second one. */
    static void promise4Bit5OfTheSecondByte() {
        reads(1, 31, 32, 1, 1);
        reads(1, 95, 127, 1, 1);
        breaks(4, 63, 0, 1, 1);
        breaks(4, 255, 95, 1, 1);
    }

    /** "its value must be a sequence of data objects again": an empty value is one. */
    static void promise4EmptyConstructedValue() {
        reads(1, 97, 0);
        reads(1, 97, 129, 0);
        reads(2, 97, 2, 97, 0);
        reads(2, 97, 0, 1, 0);
    }

    /** "a sequence of data objects again, which fills the value exactly": just full. */
    static void promise4ChildrenFillTheValue() {
        reads(2, 97, 2, 1, 0);
        reads(3, 97, 5, 1, 0, 2, 1, 9);
        reads(3, 97, 4, 97, 2, 1, 0);
        reads(4, 97, 4, 97, 2, 1, 0, 2, 0);
        reads(3, 97, 5, 1, 129, 0, 2, 0);
    }

    /** "which fills the value exactly": a byte is left over, with and without bytes behind the value. */
    static void promise4ChildrenTooShort() {
        breaks(5, 97, 3, 1, 0, 1);
        breaks(5, 97, 3, 1, 0, 1, 0);
        breaks(3, 97, 1, 1);
        breaks(3, 97, 1, 1, 0);
    }

    /** "which fills the value exactly": the last child would go on behind the value, with and without bytes there. */
    static void promise4ChildrenTooLong() {
        breaks(3, 97, 2, 1, 1);
        breaks(3, 97, 2, 1, 1, 5);
        breaks(5, 97, 4, 1, 0, 2, 1, 9);
        breaks(3, 97, 3, 1, 129, 1, 9);
    }

    /** "The end below is the end of the value of the innermost constructed data object in which the place lies". */
    static void promise4EndOfTheInnermostValue() {
        breaks(5, 97, 4, 97, 1, 1, 0);
        breaks(7, 97, 6, 97, 3, 1, 0, 1, 0);
        breaks(7, 97, 8, 97, 6, 97, 1, 1, 0, 0, 0);
        breaks(5, 97, 5, 97, 2, 1, 1, 9);
        breaks(7, 97, 5, 97, 2, 1, 0, 1, 0);
        breaks(7, 97, 5, 97, 2, 1, 0, 1);
    }

    /** "or the end of the buffer if there is none". */
    static void promise4EndOfTheBuffer() {
        breaks(1, 1);
        breaks(3, 1, 0, 1);
        breaks(5, 97, 2, 1, 0, 1);
        breaks(3, 97, 0, 1);
        breaks(120, Scenes.join(Scenes.object(1, Scenes.zeros(117)), Scenes.bytes(1)));
    }

    /** "the end, if the second byte of a tag [...] would lie at the end or behind it". */
    static void promise4SecondByteOfATagMissing() {
        breaks(1, 31);
        breaks(3, 1, 0, 63);
        breaks(3, 97, 1, 31);
        breaks(3, 97, 1, 31, 5, 0);
        breaks(3, 97, 1, 31, 200, 0);
        breaks(120, Scenes.join(Scenes.object(1, Scenes.zeros(117)), Scenes.bytes(31)));
    }

    /** "the end, if [...] a byte of a length would lie at the end or behind it": the first byte. */
    static void promise4FirstByteOfALengthMissing() {
        breaks(1, 1);
        breaks(1, 97);
        breaks(2, 31, 5);
        breaks(3, 97, 1, 79);
        breaks(3, 97, 1, 79, 0);
        breaks(3, 97, 1, 79, 200);
        breaks(4, 97, 2, 31, 5, 0);
    }

    /** "the end, if [...] a byte of a length would lie at the end or behind it": the second byte. */
    static void promise4SecondByteOfALengthMissing() {
        breaks(2, 1, 129);
        breaks(3, 31, 5, 129);
        breaks(4, 97, 2, 1, 129);
        breaks(4, 97, 2, 1, 129, 0);
        breaks(5, 97, 3, 31, 5, 129, 0);
        breaks(6, 97, 4, 97, 2, 1, 129, 0);
        breaks(120, Scenes.join(Scenes.object(1, Scenes.zeros(116)), Scenes.bytes(1, 129)));
    }

    /** "the offset of the first byte of a length, [...] if the value would extend beyond the end": by one byte. */
    static void promise4ValueTooLongByOne() {
        breaks(1, 1, 1);
        breaks(1, 97, 1);
        breaks(2, 31, 5, 1);
        breaks(1, 1, 129, 1);
        breaks(2, 31, 5, 129, 1);
        breaks(1, 79, 3, 1, 2);
        breaks(3, 1, 0, 97, 3, 1, 0);
        breaks(3, 97, 2, 79, 1, 0);
        breaks(5, 97, 4, 97, 2, 1, 1, 5);
    }

    /** "the first rule that is found to be broken gives the error offset": of two faults the one before. */
    static void promise4FirstOfTwoFaults() {
        breaks(1, 1, 128, 31, 128);
        breaks(1, 31, 128, 128);
        breaks(3, 97, 4, 1, 128, 31, 128);
        breaks(3, 97, 2, 1, 1, 1, 128);
        breaks(3, 97, 1, 31, 128);
        breaks(4, 1, 0, 31, 5, 128, 31);
    }

    /** "(That the value fits into what is left is checked before the value is read.)" */
    static void promise4ValueFitsIsCheckedFirst() {
        breaks(1, 97, 3, 1, 128);
        breaks(1, 97, 3, 31, 255);
        breaks(1, 97, 2, 1);
        breaks(3, 97, 4, 97, 3, 1, 128);
        breaks(1, Scenes.join(Scenes.bytes(97, 49), Scenes.times(24, 1, 0)));
    }

    /** "At most 24 data objects are allowed.": just 24, beside each other and in each other. */
    static void promise4TwentyFourObjects() {
        reads(24, Scenes.times(24, 1, 0));
        reads(24, Scenes.object(97, Scenes.times(23, 1, 0)));
        reads(24, nest(24));
        reads(23, Scenes.times(23, 1, 0));
        reads(24, Scenes.times(24, 1, 2, 9, 9));
    }

    /** "the offset of the tag of a 25th data object". */
    static void promise4The25thObject() {
        breaks(48, Scenes.times(25, 1, 0));
        breaks(72, Scenes.times(25, 31, 5, 0));
        breaks(48, Scenes.times(60, 1, 0));
        breaks(72, Scenes.times(40, 1, 1, 9));
    }

    /** "the offset of the tag of a 25th data object": children count too. */
    static void promise4The25thObjectIsAChild() {
        breaks(48, Scenes.object(97, Scenes.times(24, 1, 0)));
        breaks(48, Scenes.join(Scenes.object(97, Scenes.times(23, 1, 0)), Scenes.bytes(1, 0)));
        breaks(48, nest(25));
        breaks(48, nest(60));
        breaks(48, Scenes.times(30, 97, 0));
    }

    /** "the offset of the tag of a 25th data object": whatever else is wrong with that one. */
    static void promise4The25thObjectIsBrokenToo() {
        breaks(48, Scenes.join(Scenes.times(24, 1, 0), Scenes.bytes(1)));
        breaks(48, Scenes.join(Scenes.times(24, 1, 0), Scenes.bytes(31)));
        breaks(48, Scenes.join(Scenes.times(24, 1, 0), Scenes.bytes(31, 128)));
        breaks(48, Scenes.join(Scenes.times(24, 1, 0), Scenes.bytes(1, 128)));
        breaks(48, Scenes.join(Scenes.times(24, 1, 0), Scenes.bytes(1, 9)));
    }

    /** "the first rule that is found to be broken gives the error offset": the 24th data object comes before the 25th. */
    static void promise4The24thObjectIsBroken() {
        breaks(47, Scenes.join(Scenes.times(23, 1, 0), Scenes.bytes(1)));
        breaks(47, Scenes.join(Scenes.times(23, 1, 0), Scenes.bytes(1, 1)));
        breaks(47, Scenes.join(Scenes.times(23, 1, 0), Scenes.bytes(1, 128, 1, 0)));
        breaks(47, Scenes.join(Scenes.times(23, 1, 0), Scenes.bytes(31, 128, 1, 0)));
    }

    private static int[] nest(int levels) {
        int[] bytes = {};
        for (int level = 0; level < levels; level++) {
            bytes = Scenes.object(97, bytes);
        }
        return bytes;
    }

    /** "Returns the error offset of the byte buffer": of the buffer as it is now, which asking leaves alone. */
    static void promise4FollowsTheBuffer() {
        CardTerminal x = Scenes.with(79, 2, 1);
        Checks.due("errorOffset()", x.errorOffset(), 1);
        Checks.due("errorOffset() again", x.errorOffset(), 1);
        Checks.due("appendByte(2)", x.appendByte(2), 4);
        Checks.due("errorOffset()", x.errorOffset(), Checks.NOT_FOUND);
        Checks.due("appendByte(2)", x.appendByte(2), 5);
        Checks.due("errorOffset()", x.errorOffset(), 5);
        Checks.due("clearBytes()", x.clearBytes(), 5);
    }

    /** "Returns the error offset of the byte buffer": 0 can't be one, for the first tag needs a first byte only. */
    static void promise4NoErrorAtTheFirstByte() {
        for (int first = 0; first <= 255; first++) {
            breaks(1, first);
        }
    }

    /** "A call that returns an error changes nothing.": errorOffset of a right buffer. */
    static void promise4NotFoundChangesNothing() {
        Twins.refused("errorOffset()", Scenes::busyPending, CardTerminal::errorOffset, Checks.NOT_FOUND);
        Twins.refused("errorOffset(), empty", CardTerminal::new, CardTerminal::errorOffset, Checks.NOT_FOUND);
    }
}

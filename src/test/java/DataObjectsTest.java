/** Promises 2 to 9, and the rules of 'Data objects'. */
final class DataObjectsTest {
    private DataObjectsTest() {
    }

    private static void breaks(int want, int... bytes) {
        CardTerminal x = Checks.with(bytes);
        String what = java.util.Arrays.toString(bytes);
        Checks.due(what + ": errorOffset()", x.errorOffset(), want);
        Checks.due(what + ": objectCount()", x.objectCount(), Checks.INVALID_STATE);
    }

    private static void reads(int objects, int... bytes) {
        CardTerminal x = Checks.with(bytes);
        String what = java.util.Arrays.toString(bytes);
        Checks.due(what + ": errorOffset()", x.errorOffset(), Checks.NOT_FOUND);
        Checks.due(what + ": objectCount()", x.objectCount(), objects);
    }

    static void promise2AppendByte() {
        CardTerminal x = new CardTerminal();
        Checks.due("appendByte(-1)", x.appendByte(-1), Checks.INVALID_ARGUMENT);
        Checks.due("appendByte(256)", x.appendByte(256), Checks.INVALID_ARGUMENT);
        Checks.due("appendByte(MAX)", x.appendByte(Integer.MAX_VALUE), Checks.INVALID_ARGUMENT);
        Checks.due("appendByte(MIN)", x.appendByte(Integer.MIN_VALUE), Checks.INVALID_ARGUMENT);
        Checks.due("appendByte(0)", x.appendByte(0), 1);
        Checks.due("appendByte(255)", x.appendByte(255), 2);
        for (int number = 3; number <= 120; number++) {
            Checks.due("append of byte " + number, x.appendByte(number), number);
        }
        Checks.due("appendByte(0) to 120", x.appendByte(0), Checks.LIMIT_REACHED);
        Checks.due("appendByte(256) to 120", x.appendByte(256), Checks.INVALID_ARGUMENT);
        Checks.due("clearBytes()", x.clearBytes(), 120);
        Checks.due("appendByte(9)", x.appendByte(9), 1);
    }

    static void promise2EveryByteIsKept() {
        for (int value = 0; value < 128; value++) {
            CardTerminal x = Checks.with(value, 0);
            if ((value & 31) != 31) {
                Checks.due("tag " + value, x.objectTag(0), value);
            }
        }
    }

    static void promise3ClearBytes() {
        CardTerminal x = new CardTerminal();
        Checks.due("clearBytes() of none", x.clearBytes(), 0);
        Checks.append(x, 1, 2, 3);
        Checks.due("clearBytes() of 3", x.clearBytes(), 3);
        Checks.due("clearBytes() again", x.clearBytes(), 0);
        Checks.due("errorOffset()", x.errorOffset(), Checks.NOT_FOUND);
        Checks.due("objectCount()", x.objectCount(), 0);
    }

    static void promise4NoError() {
        reads(0);
        reads(1, 1, 0);
        reads(1, 79, 2, 1, 2);
        reads(2, 1, 0, 2, 0);
        reads(1, 97, 0);
        reads(2, 97, 2, 1, 0);
        reads(3, 97, 4, 97, 2, 1, 0);
        reads(1, 31, 127, 0);
        reads(1, 31, 31, 0);
        reads(1, 1, 129, 0);
        reads(1, 1, 129, 1, 7);
        reads(1, 255, 0, 0);
        reads(4, 63, 5, 4, 1, 0, 2, 0, 3, 0);
    }

    static void promise4LongValues() {
        reads(1, Checks.join(new int[] {1, 118}, new int[118]));
        reads(1, Checks.join(new int[] {1, 129, 117}, new int[117]));
        breaks(1, Checks.join(new int[] {1, 119}, new int[118]));
        breaks(1, Checks.join(new int[] {1, 129, 118}, new int[117]));
        breaks(1, Checks.join(new int[] {1, 127}, new int[118]));
        breaks(1, Checks.join(new int[] {1, 129, 255}, new int[117]));
    }

    static void promise4MissingBytes() {
        breaks(1, 1);
        breaks(1, 97);
        breaks(1, 31);
        breaks(2, 31, 5);
        breaks(2, 1, 129);
        breaks(3, 31, 5, 129);
        breaks(3, 1, 0, 1);
    }

    static void promise4MissingBytesInAValue() {
        breaks(3, 97, 1, 79, 0);
        breaks(3, 97, 1, 31, 200);
        breaks(4, 97, 2, 31, 5, 0);
        breaks(4, 97, 2, 1, 129, 0);
        breaks(5, 97, 3, 1, 0, 1, 0);
        breaks(5, 97, 4, 97, 1, 1, 0);
        breaks(7, 97, 5, 97, 2, 1, 0, 1);
        breaks(6, 97, 4, 97, 2, 1, 129, 0);
    }

    static void promise4SecondByteOfATag() {
        breaks(1, 31, 128, 0);
        breaks(1, 31, 255);
        breaks(3, 97, 3, 63, 128, 0);
        reads(1, 31, 0, 0);
        reads(1, 31, 127, 0);
    }

    static void promise4LengthNotAllowed() {
        breaks(1, 1, 128);
        breaks(1, 1, 130, 0);
        breaks(1, 1, 255);
        breaks(2, 31, 5, 128, 0);
        breaks(3, 97, 3, 1, 128, 0);
        reads(1, Checks.join(new int[] {1, 100}, new int[100]));
    }

    static void promise4ValueTooLong() {
        breaks(1, 1, 1);
        breaks(1, 97, 1);
        breaks(1, 1, 129, 1);
        breaks(2, 31, 5, 1);
        breaks(3, 97, 2, 1, 1, 5);
        breaks(3, 97, 3, 1, 129, 1, 5);
        breaks(5, 97, 4, 97, 2, 1, 1, 5);
        breaks(1, 97, 3, 1, 128);
    }

    static void promise4FirstBrokenRuleCounts() {
        breaks(1, 1, 128, 31, 128);
        breaks(3, 97, 2, 1, 1, 1, 128);
        breaks(3, 1, 0, 1);
        breaks(3, 1, 0, 1, 128);
    }

    static void promise4The25thObject() {
        reads(24, Checks.times(24, 1, 0));
        breaks(48, Checks.times(25, 1, 0));
        breaks(48, Checks.join(Checks.times(24, 1, 0), new int[] {31, 128}));
        breaks(72, Checks.times(25, 31, 5, 0));
        breaks(47, Checks.join(Checks.times(23, 1, 0), new int[] {1, 1}));
        reads(24, Checks.join(new int[] {97, 46}, Checks.times(23, 1, 0)));
        breaks(48, Checks.join(new int[] {97, 50}, Checks.times(23, 1, 0), new int[] {2, 2, 1, 0}));
        breaks(48, Checks.join(new int[] {97, 48}, Checks.times(24, 1, 0)));
        breaks(49, Checks.join(new int[] {1, 1, 9}, Checks.times(24, 1, 0)));
    }

    private static int[] nest(int levels) {
        int[] bytes = {};
        for (int level = 0; level < levels; level++) {
            bytes = Checks.object(97, bytes);
        }
        return bytes;
    }

    static void promise4DeepNesting() {
        reads(24, nest(24));
        breaks(48, nest(25));
        breaks(48, nest(60));
        CardTerminal x = Checks.with(nest(24));
        for (int object = 0; object < 24; object++) {
            Checks.due("depth of " + object, x.objectDepth(object), object);
            Checks.due("length of " + object, x.objectLength(object), 46 - 2 * object);
        }
    }

    static void promise4KeepsTheBuffer() {
        CardTerminal x = Checks.with(79, 2, 1);
        Checks.due("errorOffset()", x.errorOffset(), 1);
        Checks.due("appendByte(2)", x.appendByte(2), 4);
        Checks.due("errorOffset()", x.errorOffset(), Checks.NOT_FOUND);
        Checks.due("appendByte(2)", x.appendByte(2), 5);
        Checks.due("errorOffset()", x.errorOffset(), 5);
    }

    static void promise5ObjectCount() {
        CardTerminal x = new CardTerminal();
        Checks.due("objectCount()", x.objectCount(), 0);
        Checks.append(x, 97, 4, 1, 0, 2, 0);
        Checks.due("objectCount()", x.objectCount(), 3);
        Checks.append(x, 3, 0);
        Checks.due("objectCount()", x.objectCount(), 4);
        Checks.append(x, 3);
        Checks.due("objectCount()", x.objectCount(), Checks.INVALID_STATE);
    }

    private static CardTerminal mixed() {
        return Checks.with(97, 11, 1, 1, 9, 63, 5, 2, 32, 0, 95, 0, 0, 4, 129, 3, 7, 7, 7);
    }

    private static void perObject(String what, int[] want, java.util.function.IntUnaryOperator call) {
        for (int object = 0; object < want.length; object++) {
            Checks.due(what + "(" + object + ")", call.applyAsInt(object), want[object]);
        }
        Checks.due(what + " of none", call.applyAsInt(want.length), Checks.NOT_FOUND);
        Checks.due(what + "(24)", call.applyAsInt(24), Checks.NOT_FOUND);
        Checks.due(what + "(MAX)", call.applyAsInt(Integer.MAX_VALUE), Checks.NOT_FOUND);
        Checks.due(what + "(-1)", call.applyAsInt(-1), Checks.INVALID_ARGUMENT);
        Checks.due(what + "(MIN)", call.applyAsInt(Integer.MIN_VALUE), Checks.INVALID_ARGUMENT);
    }

    private static void onBroken(String what, java.util.function.IntUnaryOperator call) {
        Checks.due(what + "(-1), broken", call.applyAsInt(-1), Checks.INVALID_ARGUMENT);
        Checks.due(what + "(0), broken", call.applyAsInt(0), Checks.INVALID_STATE);
        Checks.due(what + "(99), broken", call.applyAsInt(99), Checks.INVALID_STATE);
    }

    static void promise6ObjectTag() {
        CardTerminal x = mixed();
        perObject("objectTag", new int[] {97, 1, 63 * 256 + 5, 32, 95 * 256, 4}, x::objectTag);
        onBroken("objectTag", Checks.with(1, 0, 1)::objectTag);
        Checks.due("tag 255 127", Checks.with(255, 127, 0).objectTag(0), 65407);
        Checks.due("tag 31 1", Checks.with(31, 1, 0).objectTag(0), 7937);
        Checks.due("tag 158", Checks.with(158, 0).objectTag(0), 158);
    }

    static void promise7ObjectDepth() {
        CardTerminal x = mixed();
        perObject("objectDepth", new int[] {0, 1, 1, 2, 1, 0}, x::objectDepth);
        onBroken("objectDepth", Checks.with(1, 0, 1)::objectDepth);
        CardTerminal y = Checks.with(97, 8, 97, 4, 97, 2, 1, 0, 2, 0, 3, 0);
        perObject("objectDepth", new int[] {0, 1, 2, 3, 1, 0}, y::objectDepth);
    }

    static void promise8ObjectLength() {
        CardTerminal x = mixed();
        perObject("objectLength", new int[] {11, 1, 2, 0, 0, 3}, x::objectLength);
        onBroken("objectLength", Checks.with(1, 0, 1)::objectLength);
        CardTerminal y = Checks.with(Checks.join(new int[] {1, 129, 117}, new int[117]));
        Checks.due("objectLength(0)", y.objectLength(0), 117);
    }

    static void promise9FindObject() {
        CardTerminal x = Checks.with(97, 4, 1, 0, 2, 0, 1, 0, 31, 1, 0);
        Checks.due("findObject(1, 0)", x.findObject(1, 0), 1);
        Checks.due("findObject(1, 1)", x.findObject(1, 1), 1);
        Checks.due("findObject(1, 2)", x.findObject(1, 2), 3);
        Checks.due("findObject(1, 4)", x.findObject(1, 4), Checks.NOT_FOUND);
        Checks.due("findObject(97, 0)", x.findObject(97, 0), 0);
        Checks.due("findObject(97, 1)", x.findObject(97, 1), Checks.NOT_FOUND);
        Checks.due("findObject(7937, 0)", x.findObject(7937, 0), 4);
        Checks.due("findObject(31, 0)", x.findObject(31, 0), Checks.NOT_FOUND);
        Checks.due("findObject(0, 0)", x.findObject(0, 0), Checks.NOT_FOUND);
        Checks.due("findObject(MAX, 0)", x.findObject(Integer.MAX_VALUE, 0), Checks.NOT_FOUND);
        Checks.due("findObject(1, MAX)", x.findObject(1, Integer.MAX_VALUE), Checks.NOT_FOUND);
        Checks.due("findObject(0, 5)", x.findObject(0, 5), Checks.NOT_FOUND);
    }

    static void promise9Errors() {
        CardTerminal x = Checks.with(1, 0, 1);
        Checks.due("findObject(-1, 0)", x.findObject(-1, 0), Checks.INVALID_ARGUMENT);
        Checks.due("findObject(1, -1)", x.findObject(1, -1), Checks.INVALID_ARGUMENT);
        Checks.due("findObject(1, 0)", x.findObject(1, 0), Checks.INVALID_STATE);
        Checks.due("findObject(1, 99)", x.findObject(1, 99), Checks.INVALID_STATE);
        x.clearBytes();
        Checks.due("findObject(1, 0) of none", x.findObject(1, 0), Checks.NOT_FOUND);
        Checks.append(x, 0, 0);
        Checks.due("findObject(0, 0)", x.findObject(0, 0), 0);
        Checks.due("findObject(1, MIN)", x.findObject(1, Integer.MIN_VALUE), Checks.INVALID_ARGUMENT);
    }

    /** What an earlier, longer buffer read as must not be seen any more. */
    static void promise9NothingOfTheBufferBefore() {
        CardTerminal x = Checks.with(Checks.times(24, 1, 0));
        Checks.due("findObject(1, 23)", x.findObject(1, 23), 23);
        Checks.fill(x, 2, 0);
        Checks.due("findObject(1, 0)", x.findObject(1, 0), Checks.NOT_FOUND);
        Checks.due("objectTag(1)", x.objectTag(1), Checks.NOT_FOUND);
    }
}

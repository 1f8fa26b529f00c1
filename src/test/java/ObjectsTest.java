import java.util.function.IntUnaryOperator;
import java.util.function.ToIntFunction;

/** What is asked about the data objects of the buffer: promises 5 to 9. The comments quote what is tested. */
final class ObjectsTest {
    private ObjectsTest() {
    }

    private static int[] nest(int levels) {
        int[] bytes = {};
        for (int level = 0; level < levels; level++) {
            bytes = Scenes.object(97, bytes);
        }
        return bytes;
    }

    /** Six data objects: 97 with 1, 63 5 (with 32) and 95 0, then 4. */
    private static CardTerminal mixed() {
        return Scenes.with(97, 11, 1, 1, 9, 63, 5, 2, 32, 0, 95, 0, 0, 4, 129, 3, 7, 7, 7);
    }

    private static void each(String what, IntUnaryOperator call, int... want) {
        for (int object = 0; object < want.length; object++) {
            Checks.due(what + "(" + object + ")", call.applyAsInt(object), want[object]);
        }
    }

    // ---- promise 5

    /** "Returns the number of data objects of the byte buffer, children included": none, one, and the most. */
    static void promise5Number() {
        Checks.due("objectCount() of none", new CardTerminal().objectCount(), 0);
        Checks.due("objectCount() of one", Scenes.with(1, 0).objectCount(), 1);
        Checks.due("objectCount() of 24", Scenes.with(Scenes.times(24, 1, 0)).objectCount(), 24);
    }

    /** "children included". */
    static void promise5Children() {
        Checks.due("objectCount()", mixed().objectCount(), 6);
        Checks.due("objectCount() of 24 nested", Scenes.with(nest(24)).objectCount(), 24);
    }

    /** "INVALID_STATE if there is an error offset." */
    static void promise5Broken() {
        Checks.due("objectCount()", Scenes.with(1, 0, 1).objectCount(), Checks.INVALID_STATE);
        Checks.due("objectCount() of 25", Scenes.with(Scenes.times(25, 1, 0)).objectCount(), Checks.INVALID_STATE);
        Twins.refused("objectCount()", Scenes::busyBroken, CardTerminal::objectCount, Checks.INVALID_STATE);
    }

    /** "Returns the number of data objects of the byte buffer": of the buffer as it is now. */
    static void promise5FollowsTheBuffer() {
        CardTerminal x = Scenes.with(97, 4, 1, 0, 2, 0);
        Checks.due("objectCount()", x.objectCount(), 3);
        Scenes.append(x, 3);
        Checks.due("objectCount(), broken", x.objectCount(), Checks.INVALID_STATE);
        Scenes.append(x, 0);
        Checks.due("objectCount(), whole", x.objectCount(), 4);
        x.clearBytes();
        Checks.due("objectCount(), empty", x.objectCount(), 0);
    }

    // ---- promise 6

    /** "The number of a tag of one byte is this byte": each of them. */
    static void promise6TagOfOneByte() {
        for (int tag = 0; tag <= 255; tag++) {
            if (tag % 32 != 31) {
                Checks.due("objectTag(0) of " + tag, Scenes.with(tag, 0).objectTag(0), tag);
            }
        }
    }

    /** "the number of a tag of two bytes is 256 times the first byte plus the second byte": from the least to the largest. */
    static void promise6TagOfTwoBytes() {
        for (int first = 31; first <= 255; first += 32) {
            for (int second = 0; second <= 127; second++) {
                CardTerminal x = Scenes.with(first, second, 0);
                Checks.due("objectTag(0) of " + first + " " + second, x.objectTag(0), 256 * first + second);
            }
        }
    }

    /** "numbered from 0 in the order of the offsets of their tags, children included". */
    static void promise6Order() {
        each("objectTag", mixed()::objectTag, 97, 1, 63 * 256 + 5, 32, 95 * 256, 4);
    }

    // ---- promise 7

    /** "The depth of a data object is 0 if it is no child". */
    static void promise7NoChild() {
        each("objectDepth", Scenes.with(1, 0, 97, 0, 2, 0)::objectDepth, 0, 0, 0);
    }

    /** "and 1 more than the depth of the data object of which it is a child otherwise". */
    static void promise7Children() {
        each("objectDepth", mixed()::objectDepth, 0, 1, 1, 2, 1, 0);
        each("objectDepth", Scenes.with(97, 8, 97, 4, 97, 2, 1, 0, 2, 0, 3, 0)::objectDepth, 0, 1, 2, 3, 1, 0);
        each("objectDepth", Scenes.with(97, 6, 97, 4, 97, 2, 1, 0, 3, 0)::objectDepth, 0, 1, 2, 3, 0);
    }

    /** "and 1 more than the depth": the deepest that 24 data objects can be. */
    static void promise7Deepest() {
        CardTerminal x = Scenes.with(nest(24));
        for (int object = 0; object < 24; object++) {
            Checks.due("objectDepth(" + object + ")", x.objectDepth(object), object);
        }
    }

    /** "The data objects in the value are its children.": what follows an empty value is no child. */
    static void promise7BehindAnEmptyValue() {
        each("objectDepth", Scenes.with(97, 4, 97, 0, 1, 0, 2, 0)::objectDepth, 0, 1, 1, 0);
    }

    // ---- promise 8

    /** "Returns the length": none, of one byte, of two bytes. */
    static void promise8Lengths() {
        Checks.due("objectLength(0) of 0", Scenes.with(1, 0).objectLength(0), 0);
        Checks.due("objectLength(0) of 129 0", Scenes.with(1, 129, 0).objectLength(0), 0);
        Checks.due("objectLength(0) of 129 3", Scenes.with(1, 129, 3, 7, 7, 7).objectLength(0), 3);
        Checks.due("objectLength(0) of 31 5 2", Scenes.with(31, 5, 2, 7, 7).objectLength(0), 2);
    }

    /** "Returns the length": the largest that the buffer has room for. */
    static void promise8Longest() {
        Checks.due("118", Scenes.with(Scenes.object(1, Scenes.zeros(118))).objectLength(0), 118);
        int[] long2 = Scenes.join(Scenes.bytes(1, 129, 117), Scenes.zeros(117));
        Checks.due("117", Scenes.with(long2).objectLength(0), 117);
    }

    /** "the length of the value": with all that lies in it, tags and lengths too. */
    static void promise8Constructed() {
        each("objectLength", mixed()::objectLength, 11, 1, 2, 0, 0, 3);
        CardTerminal x = Scenes.with(nest(24));
        for (int object = 0; object < 24; object++) {
            Checks.due("objectLength(" + object + ")", x.objectLength(object), 46 - 2 * object);
        }
    }

    // ---- the errors of promises 6, 7 and 8

    private static void tooSmall(String what, IntUnaryOperator call) {
        Checks.due(what + "(-1)", call.applyAsInt(-1), Checks.INVALID_ARGUMENT);
        Checks.due(what + "(MIN)", call.applyAsInt(Checks.MIN), Checks.INVALID_ARGUMENT);
    }

    /** "INVALID_ARGUMENT if object is negative". */
    static void promises6To8Negative() {
        CardTerminal x = mixed();
        tooSmall("objectTag", x::objectTag);
        tooSmall("objectDepth", x::objectDepth);
        tooSmall("objectLength", x::objectLength);
    }

    private static void broken(String what, IntUnaryOperator call) {
        Checks.due(what + "(0), broken", call.applyAsInt(0), Checks.INVALID_STATE);
        Checks.due(what + "(1), broken", call.applyAsInt(1), Checks.INVALID_STATE);
        Checks.due(what + "(-1), broken", call.applyAsInt(-1), Checks.INVALID_ARGUMENT);
        Checks.due(what + "(3), broken", call.applyAsInt(3), Checks.INVALID_STATE);
        Checks.due(what + "(MAX), broken", call.applyAsInt(Checks.MAX), Checks.INVALID_STATE);
    }

    /** "INVALID_STATE if there is an error offset", after INVALID_ARGUMENT and before NOT_FOUND. */
    static void promises6To8Broken() {
        CardTerminal x = Scenes.with(1, 0, 2, 0, 3);
        broken("objectTag", x::objectTag);
        broken("objectDepth", x::objectDepth);
        broken("objectLength", x::objectLength);
    }

    private static void tooLarge(String what, IntUnaryOperator call, int objects) {
        if (objects > 0) {
            Checks.isTrue(what + " of the last one", call.applyAsInt(objects - 1) >= 0);
        }
        Checks.due(what + "(" + objects + ")", call.applyAsInt(objects), Checks.NOT_FOUND);
        Checks.due(what + "(" + (objects + 1) + ")", call.applyAsInt(objects + 1), Checks.NOT_FOUND);
        Checks.due(what + "(MAX)", call.applyAsInt(Checks.MAX), Checks.NOT_FOUND);
    }

    private static void noneBeyond(CardTerminal x, int objects) {
        tooLarge("objectTag", x::objectTag, objects);
        tooLarge("objectDepth", x::objectDepth, objects);
        tooLarge("objectLength", x::objectLength, objects);
    }

    /** "NOT_FOUND if there is no such data object": some data objects, and the most. */
    static void promises6To8NoSuchObject() {
        noneBeyond(mixed(), 6);
        noneBeyond(Scenes.with(Scenes.times(24, 1, 0)), 24);
    }

    /** "NOT_FOUND if there is no such data object": an empty buffer has none. */
    static void promises6To8EmptyBuffer() {
        noneBeyond(new CardTerminal(), 0);
    }

    /** "NOT_FOUND if there is no such data object": those of a longer buffer before are no more. */
    static void promises6To8ShorterBuffer() {
        CardTerminal x = Scenes.with(Scenes.times(24, 1, 0));
        Checks.due("objectTag(23)", x.objectTag(23), 1);
        Scenes.fill(x, 2, 0);
        noneBeyond(x, 1);
    }

    private static void errorsOf(String what, ToIntFunction<CardTerminal> negative, ToIntFunction<CardTerminal> third,
            ToIntFunction<CardTerminal> hundredth) {
        Twins.refused(what + "(-1)", Scenes::busyPending, negative, Checks.INVALID_ARGUMENT);
        Twins.refused(what + "(3), broken", Scenes::busyBroken, third, Checks.INVALID_STATE);
        Twins.refused(what + "(100)", Scenes::busyPending, hundredth, Checks.NOT_FOUND);
    }

    /** "A call that returns an error changes nothing." */
    static void promises6To8ErrorsChangeNothing() {
        errorsOf("objectTag", x -> x.objectTag(-1), x -> x.objectTag(3), x -> x.objectTag(100));
        errorsOf("objectDepth", x -> x.objectDepth(-1), x -> x.objectDepth(3), x -> x.objectDepth(100));
        errorsOf("objectLength", x -> x.objectLength(-1), x -> x.objectLength(3), x -> x.objectLength(100));
    }

    // ---- promise 9

    /** The tags 97, 1, 2, 1 and 31 1. */
    private static CardTerminal twoOnes() {
        return Scenes.with(97, 4, 1, 0, 2, 0, 1, 0, 31, 1, 0);
    }

    /** "Returns the least number of a data object that [...] has this tag". */
    static void promise9Least() {
        CardTerminal x = twoOnes();
        Checks.due("findObject(1, 0)", x.findObject(1, 0), 1);
        Checks.due("findObject(97, 0)", x.findObject(97, 0), 0);
        Checks.due("findObject(31 1, 0)", x.findObject(7937, 0), 4);
    }

    /** "that is at least from": just from, one more, and behind the last one. */
    static void promise9From() {
        CardTerminal x = twoOnes();
        Checks.due("findObject(1, 1)", x.findObject(1, 1), 1);
        Checks.due("findObject(1, 2)", x.findObject(1, 2), 3);
        Checks.due("findObject(1, 3)", x.findObject(1, 3), 3);
        Checks.due("findObject(1, 4)", x.findObject(1, 4), Checks.NOT_FOUND);
        Checks.due("findObject(97, 1)", x.findObject(97, 1), Checks.NOT_FOUND);
        Checks.due("findObject(7937, 4)", x.findObject(7937, 4), 4);
    }

    /** "that is at least from": the last of 24. */
    static void promise9LastOf24() {
        CardTerminal x = Scenes.with(Scenes.times(24, 1, 0));
        Checks.due("findObject(1, 23)", x.findObject(1, 23), 23);
        Checks.due("findObject(1, 24)", x.findObject(1, 24), Checks.NOT_FOUND);
    }

    /** "NOT_FOUND if there is none": no such tag, or none so far behind. */
    static void promise9None() {
        CardTerminal x = twoOnes();
        Checks.due("findObject(3, 0)", x.findObject(3, 0), Checks.NOT_FOUND);
        Checks.due("findObject(31, 0)", x.findObject(31, 0), Checks.NOT_FOUND);
        Checks.due("findObject(MAX, 0)", x.findObject(Checks.MAX, 0), Checks.NOT_FOUND);
        Checks.due("findObject(1, 5)", x.findObject(1, 5), Checks.NOT_FOUND);
        Checks.due("findObject(1, MAX)", x.findObject(1, Checks.MAX), Checks.NOT_FOUND);
    }

    /** "NOT_FOUND if there is none": an empty buffer, also for what rows hold that were never written. */
    static void promise9EmptyBuffer() {
        CardTerminal x = new CardTerminal();
        Checks.due("findObject(0, 0)", x.findObject(0, 0), Checks.NOT_FOUND);
        Scenes.append(x, 1, 0);
        Checks.due("findObject(0, 0) of a 1", x.findObject(0, 0), Checks.NOT_FOUND);
        Checks.due("findObject(0, 1) of a 1", x.findObject(0, 1), Checks.NOT_FOUND);
    }

    /** "number of a tag, 0 or more": the tag 0. */
    static void promise9TagZero() {
        CardTerminal x = Scenes.with(1, 0, 0, 0);
        Checks.due("findObject(0, 0)", x.findObject(0, 0), 1);
    }

    /** "Finds a data object by its tag.": those of a longer buffer before are no more. */
    static void promise9ShorterBuffer() {
        CardTerminal x = Scenes.with(Scenes.times(24, 1, 0));
        Checks.due("findObject(1, 5)", x.findObject(1, 5), 5);
        Scenes.fill(x, 1, 0);
        Checks.due("findObject(1, 0)", x.findObject(1, 0), 0);
        Checks.due("findObject(1, 1)", x.findObject(1, 1), Checks.NOT_FOUND);
    }

    /** "INVALID_ARGUMENT if an argument is negative". */
    static void promise9Negative() {
        CardTerminal x = twoOnes();
        Checks.due("findObject(-1, 0)", x.findObject(-1, 0), Checks.INVALID_ARGUMENT);
        Checks.due("findObject(1, -1)", x.findObject(1, -1), Checks.INVALID_ARGUMENT);
        Checks.due("findObject(MIN, 0)", x.findObject(Checks.MIN, 0), Checks.INVALID_ARGUMENT);
        Checks.due("findObject(1, MIN)", x.findObject(1, Checks.MIN), Checks.INVALID_ARGUMENT);
        Checks.due("findObject(-1, -1)", x.findObject(-1, -1), Checks.INVALID_ARGUMENT);
    }

    /** "INVALID_STATE if there is an error offset", after INVALID_ARGUMENT and before NOT_FOUND. */
    static void promise9Broken() {
        CardTerminal x = Scenes.with(1, 0, 1);
        Checks.due("findObject(1, 0)", x.findObject(1, 0), Checks.INVALID_STATE);
        Checks.due("findObject(9, 0)", x.findObject(9, 0), Checks.INVALID_STATE);
        Checks.due("findObject(1, MAX)", x.findObject(1, Checks.MAX), Checks.INVALID_STATE);
        Checks.due("findObject(-1, 0)", x.findObject(-1, 0), Checks.INVALID_ARGUMENT);
        Checks.due("findObject(1, -1)", x.findObject(1, -1), Checks.INVALID_ARGUMENT);
    }

    /** "A call that returns an error changes nothing." */
    static void promise9ErrorsChangeNothing() {
        Twins.refused("findObject(-1, 0)", Scenes::busyPending, x -> x.findObject(-1, 0), Checks.INVALID_ARGUMENT);
        Twins.refused("findObject(79, -1)", Scenes::busyPending, x -> x.findObject(79, -1), Checks.INVALID_ARGUMENT);
        Twins.refused("findObject(79, 0)", Scenes::busyBroken, x -> x.findObject(79, 0), Checks.INVALID_STATE);
        Twins.refused("findObject(78, 0)", Scenes::busyPending, x -> x.findObject(78, 0), Checks.NOT_FOUND);
    }
}

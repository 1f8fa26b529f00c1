import java.util.Arrays;

/** Bytes of data objects, and objects of CardTerminal in the states that the tests begin with. */
final class Scenes {
    private Scenes() {
    }

    // ---- bytes

    static int[] bytes(int... values) {
        return values;
    }

    static int[] join(int[]... parts) {
        int size = 0;
        for (int[] part : parts) {
            size += part.length;
        }
        int[] all = new int[size];
        int at = 0;
        for (int[] part : parts) {
            System.arraycopy(part, 0, all, at, part.length);
            at += part.length;
        }
        return all;
    }

    static int[] times(int number, int... part) {
        int[][] parts = new int[number][];
        Arrays.fill(parts, part);
        return join(parts);
    }

    static int[] zeros(int number) {
        return new int[number];
    }

    /** An identifier of the given length whose bytes are first, 2, 3 and so on. */
    static int[] identifier(int first, int length) {
        int[] bytes = new int[length];
        for (int i = 0; i < length; i++) {
            bytes[i] = i == 0 ? first : i + 1;
        }
        return bytes;
    }

    static int[] object(int tag, int... value) {
        return join(bytes(tag, value.length), value);
    }

    static int[] application(int... identifier) {
        return object(97, object(79, identifier));
    }

    static int[] application(int indicator, int[] identifier) {
        return object(97, join(object(79, identifier), object(135, indicator)));
    }

    // ---- steps

    private static void mustBe(boolean asMeant, String step) {
        if (!asMeant) {
            throw new IllegalStateException("a test's scene: " + step);
        }
    }

    static void append(CardTerminal x, int... bytes) {
        for (int value : bytes) {
            mustBe(x.appendByte(value) > 0, "appendByte");
        }
    }

    /** The byte buffer then holds just these. */
    static void fill(CardTerminal x, int... bytes) {
        x.clearBytes();
        append(x, bytes);
    }

    static void support(CardTerminal x, boolean partial, int... identifier) {
        fill(x, identifier);
        mustBe(x.addIdentifier(partial) > 0, "addIdentifier");
    }

    static void putIn(CardTerminal x, int[]... applications) {
        fill(x, join(applications));
        mustBe(x.insertCard() >= 0, "insertCard");
    }

    static void choose(CardTerminal x, int application) {
        mustBe(x.select(application, true) >= 0, "select");
    }

    static void codes(CardTerminal x, int denial, int online, int standard) {
        x.setTerminalCode(0, denial);
        x.setTerminalCode(1, online);
        x.setTerminalCode(2, standard);
    }

    static void startAs(int outcome, CardTerminal x, int amount) {
        mustBe(x.start(amount, 99) == outcome, "start");
    }

    /** A pending transaction whose answer is lost; it leaves the codes 0 and the floor limit 5000. */
    static void lose(CardTerminal x) {
        codes(x, 0, 1, 0);
        x.setFloorLimit(0);
        startAs(3, x, 1);
        mustBe(x.answer(2) == 1, "answer");
        codes(x, 0, 0, 0);
        x.setFloorLimit(5000);
    }

    /** A pending transaction that the host approves; it leaves the codes 0 and the floor limit 5000. */
    static void passOnline(CardTerminal x) {
        codes(x, 0, 1, 0);
        x.setFloorLimit(0);
        startAs(3, x, 1);
        mustBe(x.answer(1) == 2, "answer");
        codes(x, 0, 0, 0);
        x.setFloorLimit(5000);
    }

    // ---- objects

    static CardTerminal with(int... bytes) {
        CardTerminal x = new CardTerminal();
        append(x, bytes);
        return x;
    }

    /** One application on the card, which is supported and selected; the buffer holds the card's 9 bytes. */
    static CardTerminal ready() {
        CardTerminal x = new CardTerminal();
        support(x, false, identifier(1, 5));
        putIn(x, application(identifier(1, 5)));
        choose(x, 0);
        return x;
    }

    /** Like ready(), with all action codes 0, so that each transaction is approved offline. */
    static CardTerminal easy() {
        CardTerminal x = ready();
        codes(x, 0, 0, 0);
        return x;
    }

    /** Like easy(), with a card that is not new, so that small amounts give the results 0; one transaction is over. */
    static CardTerminal used() {
        CardTerminal x = easy();
        passOnline(x);
        return x;
    }

    /** Like ready(), with one transaction of the amount 10, which is pending; its results are 16. */
    static CardTerminal pending() {
        CardTerminal x = ready();
        startAs(3, x, 10);
        return x;
    }

    /** Like easy(), with so many reversals in the queue, of the transactions 0 and up. */
    static CardTerminal losing(int reversals) {
        CardTerminal x = easy();
        for (int i = 0; i < reversals; i++) {
            lose(x);
        }
        return x;
    }

    /** The applications of busy(): 2 needs confirmation, 5 is not supported. */
    static int[][] busyCard() {
        return new int[][] {
            application(3, identifier(1, 5)), application(identifier(3, 8)), application(0x81, identifier(2, 6)),
            application(2, identifier(4, 5)), application(identifier(5, 6)), application(identifier(9, 5)),
        };
    }

    /** An object that differs from a new one in all that can be set; the queue holds the transactions 2 and 3. */
    static CardTerminal busy() {
        CardTerminal x = new CardTerminal();
        support(x, true, identifier(1, 5));
        support(x, false, identifier(2, 6));
        support(x, true, identifier(3, 7));
        support(x, false, identifier(4, 5));
        support(x, true, identifier(5, 5));
        putIn(x, busyCard());
        choose(x, 0);
        codes(x, 64, 1, 8);
        x.setIssuerCode(0, 8);
        x.setIssuerCode(1, 2);
        x.setIssuerCode(2, 64);
        x.setFloorLimit(70);
        x.setOfflineLimits(1, 3);
        x.setRandomTarget(40);
        startAs(3, x, 500);
        mustBe(x.answer(1) == 2, "the first is approved online");
        startAs(1, x, 5);
        startAs(3, x, 200);
        mustBe(x.answer(2) == 0, "the third is lost");
        startAs(3, x, 201);
        mustBe(x.answer(2) == 0, "the fourth is lost");
        return x;
    }

    /** Like busy(), but not online any more, and with a latest transaction whose results are 4, approved offline. */
    static CardTerminal busyOffline() {
        CardTerminal x = busy();
        x.sendReversal(true);
        x.sendReversal(true);
        x.setOnline(false);
        startAs(1, x, 6);
        return x;
    }

    static CardTerminal busyPending() {
        CardTerminal x = busy();
        startAs(3, x, 300);
        return x;
    }

    /** Like busy(), but the buffer is no sequence of data objects. */
    static CardTerminal busyBroken() {
        CardTerminal x = busy();
        append(x, 1);
        return x;
    }

    /** Like busy(), but with other bytes in the buffer. */
    static CardTerminal busyWith(int... bytes) {
        CardTerminal x = busy();
        fill(x, bytes);
        return x;
    }
}

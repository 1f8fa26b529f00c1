/** The four examples of the document. */
final class ExamplesTest {
    private ExamplesTest() {
    }

    static void example1NestedDataObjects() {
        CardTerminal x = new CardTerminal();
        Checks.due("appendByte(97)", x.appendByte(97), 1);
        Checks.due("appendByte(3)", x.appendByte(3), 2);
        Checks.due("appendByte(79)", x.appendByte(79), 3);
        Checks.due("appendByte(1)", x.appendByte(1), 4);
        Checks.due("appendByte(5)", x.appendByte(5), 5);
        Checks.due("errorOffset()", x.errorOffset(), -4);
        Checks.due("objectCount()", x.objectCount(), 2);
        Checks.due("objectTag(1)", x.objectTag(1), 79);
        Checks.due("objectDepth(1)", x.objectDepth(1), 1);
        Checks.due("findObject(79, 0)", x.findObject(79, 0), 1);
        Checks.due("insertCard()", x.insertCard(), 0);
    }

    static void example2ValueTooShort() {
        CardTerminal x = new CardTerminal();
        Checks.due("appendByte(79)", x.appendByte(79), 1);
        Checks.due("appendByte(2)", x.appendByte(2), 2);
        Checks.due("appendByte(1)", x.appendByte(1), 3);
        Checks.due("errorOffset()", x.errorOffset(), 1);
        Checks.due("objectCount()", x.objectCount(), -2);
        Checks.due("insertCard()", x.insertCard(), -2);
    }

    static void example3RefusedCalls() {
        CardTerminal x = new CardTerminal();
        Checks.due("start(100, 50)", x.start(100, 50), -2);
        Checks.due("select(0, true)", x.select(0, true), -1);
        Checks.due("sendReversal(true)", x.sendReversal(true), -2);
        Checks.due("verificationResults()", x.verificationResults(), -4);
        Checks.due("setOfflineLimits(3, 2)", x.setOfflineLimits(3, 2), -1);
        Checks.due("setTerminalCode(1, 127)", x.setTerminalCode(1, 127), 31);
    }

    static void example4SupportedIdentifier() {
        CardTerminal x = new CardTerminal();
        for (int value = 1; value <= 5; value++) {
            Checks.due("appendByte(" + value + ")", x.appendByte(value), value);
        }
        Checks.due("addIdentifier(true)", x.addIdentifier(true), 1);
        Checks.due("candidateCount()", x.candidateCount(), 0);
        Checks.due("removeIdentifier(0)", x.removeIdentifier(0), 0);
        Checks.due("removeIdentifier(0)", x.removeIdentifier(0), -1);
    }
}

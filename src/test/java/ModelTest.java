import java.util.ArrayList;
import java.util.List;
import java.util.Random;

/** Runs of 512 calls, drawn with fixed seeds, on a CardTerminal and on the Model: all answers must be the same. */
final class ModelTest {
    private static final int RUNS = Integer.getInteger("runs", 1500);
    private static final int CALLS = 512;
    private static final int[] ODD = {Integer.MIN_VALUE, -100, -1, 0, 1, 2, 3, 4, 5, 6, 15, 16, 24, 100, 127, 128,
        255, 256, 99999, 100000, Integer.MAX_VALUE};

    private final Random random;
    private final String run;
    private final CardTerminal x = new CardTerminal();
    private final Model y = new Model();
    private int calls = 0;

    private ModelTest(long seed) {
        random = new Random(seed);
        run = "run " + seed + " call ";
    }

    static void sameAnswersAsTheModel() {
        for (int seed = 1; seed <= RUNS; seed++) {
            ModelTest test = new ModelTest(seed);
            if (seed % 2 == 0) {
                test.goOnTransactions();
            } else {
                test.go();
            }
        }
    }

    /** Bytes take most of the calls of a run, so half of the runs put a card in once and then leave it. */
    private void goOnTransactions() {
        List<Integer> identifier = List.of(0, 1, 2, 3, 0);
        appendAll(identifier);
        same("addIdentifier", x.addIdentifier(true), y.addIdentifier(true));
        same("clearBytes", x.clearBytes(), y.clearBytes());
        appendAll(wrap(97, wrap(79, identifier)));
        same("insertCard", x.insertCard(), y.insertCard());
        same("select", x.select(0, false), y.select(0, false));
        while (calls < CALLS) {
            switch (random.nextInt(20)) {
                case 0, 1, 2 -> setting();
                case 3, 4 -> lookAtTransactions();
                case 5 -> renewNowAndThen();
                case 6 -> selectSome();
                default -> transaction();
            }
        }
    }

    private void renewNowAndThen() {
        if (random.nextInt(4) == 0) {
            same("insertCard", x.insertCard(), y.insertCard());
            same("select", x.select(0, false), y.select(0, false));
        }
    }

    private void go() {
        while (calls < CALLS) {
            switch (random.nextInt(12)) {
                case 0 -> appendAll(draw());
                case 1 -> support();
                case 2 -> card();
                case 3 -> setting();
                case 4, 5 -> lookAtObjects();
                case 6 -> lookAtCandidates();
                case 7, 8, 9 -> transaction();
                case 10 -> lookAtTransactions();
                default -> same("appendByte", x.appendByte(some(300)), y.appendByte(last));
            }
        }
    }

    private int last;
    private int lastToo;

    private int some(int bound) {
        last = random.nextInt(20) == 0 ? ODD[random.nextInt(ODD.length)] : random.nextInt(bound);
        return last;
    }

    private int someToo(int bound) {
        int kept = last;
        lastToo = some(bound);
        last = kept;
        return lastToo;
    }

    /** A step may go on beyond the last call that the document promises an answer for; those answers are free. */
    private void same(String call, int got, int want) {
        calls++;
        if (calls <= CALLS) {
            Checks.due(run + calls + ": " + call, got, want);
        }
    }

    private void appendAll(List<Integer> bytes) {
        if (random.nextInt(4) != 0) {
            same("clearBytes", x.clearBytes(), y.clearBytes());
        }
        for (int value : bytes) {
            same("appendByte", x.appendByte(value), y.appendByte(value));
        }
    }

    private List<Integer> identifier() {
        List<Integer> bytes = new ArrayList<>();
        int size = random.nextInt(8) == 0 ? random.nextInt(19) : 5 + random.nextInt(3);
        for (int i = 0; i < size; i++) {
            bytes.add(i == 4 ? random.nextInt(2) : i);
        }
        return bytes;
    }

    private static List<Integer> wrap(int tag, List<Integer> value) {
        List<Integer> bytes = new ArrayList<>();
        if (tag > 255) {
            bytes.add(tag >> 8);
        }
        bytes.add(tag & 255);
        if (value.size() > 127) {
            bytes.add(129);
        }
        bytes.add(value.size() & 255);
        bytes.addAll(value);
        return bytes;
    }

    private List<Integer> application(int depth) {
        List<Integer> value = new ArrayList<>(wrap(79, identifier()));
        if (random.nextInt(3) != 0) {
            List<Integer> indicator = new ArrayList<>(List.of(random.nextInt(256) & (random.nextInt(3) == 0 ? 255 : 3)));
            if (random.nextInt(8) == 0) {
                indicator.add(1);
            }
            value.addAll(random.nextInt(5) == 0 ? 0 : value.size(), wrap(135, indicator));
        }
        if (random.nextInt(6) == 0) {
            value.addAll(wrap(79, identifier()));
        }
        if (depth < 3 && random.nextInt(6) == 0) {
            value.addAll(application(depth + 1));
        }
        return wrap(97, value);
    }

    private List<Integer> any(int depth) {
        List<Integer> value = new ArrayList<>();
        boolean deep = depth < 6 && random.nextInt(2) == 0;
        for (int i = random.nextInt(4); i > 0; i--) {
            if (deep) {
                value.addAll(any(depth + 1));
            } else {
                value.add(random.nextInt(256));
            }
        }
        int tag = random.nextInt(31) + (deep ? 32 : 0) + 64 * random.nextInt(4);
        if (random.nextInt(4) == 0) {
            tag = (tag | 31) * 256 + random.nextInt(128);
        }
        return wrap(tag, value);
    }

    private List<Integer> draw() {
        List<Integer> bytes = new ArrayList<>();
        int parts = 1 + random.nextInt(random.nextInt(4) == 0 ? 30 : 5);
        boolean small = random.nextInt(8) == 0;
        for (int i = 0; i < parts && bytes.size() < 110; i++) {
            if (small) {
                bytes.addAll(List.of(random.nextInt(3), 0));
            } else {
                bytes.addAll(random.nextInt(3) == 0 ? any(0) : application(0));
            }
        }
        if (random.nextInt(3) == 0 && !bytes.isEmpty()) {
            int[] likely = {0, 1, 5, 31, 63, 97, 127, 128, 129, 130, 255};
            int value = random.nextBoolean() ? likely[random.nextInt(likely.length)] : random.nextInt(256);
            bytes.set(random.nextInt(bytes.size()), value);
        }
        return bytes.size() > 122 ? bytes.subList(0, 122) : bytes;
    }

    private void support() {
        if (random.nextInt(3) == 0) {
            same("removeIdentifier", x.removeIdentifier(some(6)), y.removeIdentifier(last));
        }
        appendAll(identifier());
        boolean partial = random.nextBoolean();
        same("addIdentifier", x.addIdentifier(partial), y.addIdentifier(partial));
    }

    private void card() {
        if (random.nextInt(4) != 0) {
            appendAll(draw());
        }
        same("insertCard", x.insertCard(), y.insertCard());
        same("priorityOf", x.priorityOf(some(7)), y.priorityOf(last));
        selectSome();
    }

    private void selectSome() {
        for (int i = 0; i < 3; i++) {
            boolean confirmed = random.nextInt(3) != 0;
            same("select", x.select(some(4), confirmed), y.select(last, confirmed));
        }
    }

    private void setting() {
        switch (random.nextInt(6)) {
            case 0 -> same("setIssuerCode", x.setIssuerCode(some(3), someToo(130) & code()),
                y.setIssuerCode(last, lastToo & mask));
            case 1 -> same("setTerminalCode", x.setTerminalCode(some(3), someToo(130) & code()),
                y.setTerminalCode(last, lastToo & mask));
            case 2 -> same("setFloorLimit", x.setFloorLimit(some(10)), y.setFloorLimit(last));
            case 3 -> same("setOfflineLimits", x.setOfflineLimits(some(17), someToo(17)),
                y.setOfflineLimits(last, lastToo));
            case 4 -> same("setRandomTarget", x.setRandomTarget(some(102)), y.setRandomTarget(last));
            default -> {
                boolean online = random.nextInt(3) != 0;
                same("setOnline", x.setOnline(online), y.setOnline(online));
            }
        }
    }

    private int mask;

    /** Mostly few bits, or nearly every transaction would be declined. */
    private int code() {
        mask = random.nextInt(4) == 0 ? -1 : 1 << random.nextInt(7);
        return mask;
    }

    private void lookAtObjects() {
        same("errorOffset", x.errorOffset(), y.errorOffset());
        same("objectCount", x.objectCount(), y.objectCount());
        same("objectTag", x.objectTag(some(10)), y.objectTag(last));
        same("objectDepth", x.objectDepth(some(25)), y.objectDepth(last));
        same("objectLength", x.objectLength(some(10)), y.objectLength(last));
        int tag = random.nextBoolean() ? 79 : some(256);
        same("findObject", x.findObject(tag, some(10)), y.findObject(tag, last));
    }

    private void lookAtCandidates() {
        same("candidateCount", x.candidateCount(), y.candidateCount());
        same("candidateAt", x.candidateAt(some(5)), y.candidateAt(last));
        same("candidateAt", x.candidateAt(some(3)), y.candidateAt(last));
        selectSome();
    }

    private void transaction() {
        same("start", x.start(some(12), someToo(100)), y.start(last, lastToo));
        if (random.nextInt(3) != 0) {
            same("answer", x.answer(some(3)), y.answer(last));
        }
        if (random.nextInt(4) == 0) {
            boolean received = random.nextBoolean();
            same("sendReversal", x.sendReversal(received), y.sendReversal(received));
        }
    }

    private void lookAtTransactions() {
        same("reversalCount", x.reversalCount(), y.reversalCount());
        same("verificationResults", x.verificationResults(), y.verificationResults());
        same("outcomeCount", x.outcomeCount(some(4)), y.outcomeCount(last));
        same("outcomeAmount", x.outcomeAmount(some(4)), y.outcomeAmount(last));
        same("offlineCounter", x.offlineCounter(), y.offlineCounter());
    }
}

import java.util.ArrayDeque;
import java.util.ArrayList;
import java.util.Comparator;
import java.util.List;

/** The document once more, written for plainness and in another way than CardTerminal, to compare the two. */
final class Model {
    private static final int INVALID_ARGUMENT = -1, INVALID_STATE = -2, LIMIT_REACHED = -3, NOT_FOUND = -4;

    private record Node(int tag, int depth, List<Integer> value, List<Node> children) {
    }

    private record Application(int number, List<Integer> identifier, int priority, boolean confirm) {
    }

    private record Supported(List<Integer> identifier, boolean partial) {
    }

    private static final class Transaction {
        int amount, results, outcome;
    }

    private static final class Broken extends Exception {
        private static final long serialVersionUID = 1;
        final int offset;

        Broken(int offset) {
            this.offset = offset;
        }
    }

    private final List<Integer> buffer = new ArrayList<>();
    private List<Application> applications = new ArrayList<>();
    private final List<Supported> supported = new ArrayList<>();
    private final List<Transaction> transactions = new ArrayList<>();
    private final ArrayDeque<Integer> queue = new ArrayDeque<>();
    private final int[] issuer = new int[3];
    private final int[] own = {0, 31, 8};
    private Application selected = null;
    private int counter = 0, floor = 5000, lower = 2, upper = 4, target = 0;
    private boolean isNew = true, online = true;

    // ---- data objects

    private void parse(int from, int end, int depth, List<Node> all, List<Node> siblings) throws Broken {
        int p = from;
        while (p < end) {
            if (all.size() == 24) {
                throw new Broken(p);
            }
            int first = buffer.get(p++);
            int tag = first;
            if (first % 32 == 31) {
                if (p >= end) {
                    throw new Broken(end);
                }
                if (buffer.get(p) >= 128) {
                    throw new Broken(p);
                }
                tag = first * 256 + buffer.get(p++);
            }
            int lengthAt = p;
            if (p >= end) {
                throw new Broken(end);
            }
            int length = buffer.get(p++);
            if (length == 129) {
                if (p >= end) {
                    throw new Broken(end);
                }
                length = buffer.get(p++);
            } else if (length >= 128) {
                throw new Broken(lengthAt);
            }
            if (p + length > end) {
                throw new Broken(lengthAt);
            }
            Node node = new Node(tag, depth, List.copyOf(buffer.subList(p, p + length)), new ArrayList<>());
            all.add(node);
            siblings.add(node);
            if (first / 32 % 2 == 1) {
                parse(p, p + length, depth + 1, all, node.children);
            }
            p += length;
        }
    }

    private List<Node> nodes() throws Broken {
        List<Node> all = new ArrayList<>();
        parse(0, buffer.size(), 0, all, new ArrayList<>());
        return all;
    }

    int appendByte(int value) {
        if (value < 0 || value > 255) {
            return INVALID_ARGUMENT;
        }
        if (buffer.size() == 120) {
            return LIMIT_REACHED;
        }
        buffer.add(value);
        return buffer.size();
    }

    int clearBytes() {
        int size = buffer.size();
        buffer.clear();
        return size;
    }

    int errorOffset() {
        try {
            nodes();
            return NOT_FOUND;
        } catch (Broken e) {
            return e.offset;
        }
    }

    int objectCount() {
        try {
            return nodes().size();
        } catch (Broken e) {
            return INVALID_STATE;
        }
    }

    private int ofObject(int object, java.util.function.ToIntFunction<Node> what) {
        if (object < 0) {
            return INVALID_ARGUMENT;
        }
        try {
            List<Node> all = nodes();
            return object < all.size() ? what.applyAsInt(all.get(object)) : NOT_FOUND;
        } catch (Broken e) {
            return INVALID_STATE;
        }
    }

    int objectTag(int object) {
        return ofObject(object, Node::tag);
    }

    int objectDepth(int object) {
        return ofObject(object, Node::depth);
    }

    int objectLength(int object) {
        return ofObject(object, n -> n.value().size());
    }

    int findObject(int tag, int from) {
        if (tag < 0 || from < 0) {
            return INVALID_ARGUMENT;
        }
        try {
            List<Node> all = nodes();
            for (int i = from; i < all.size(); i++) {
                if (all.get(i).tag() == tag) {
                    return i;
                }
            }
            return NOT_FOUND;
        } catch (Broken e) {
            return INVALID_STATE;
        }
    }

    // ---- card

    private static Application applicationOf(Node node, int number) {
        List<Node> names = node.children().stream()
            .filter(c -> c.tag() == 79 && c.value().size() >= 5 && c.value().size() <= 16).toList();
        if (node.tag() != 97 || names.size() != 1) {
            return null;
        }
        int indicator = node.children().stream().filter(c -> c.tag() == 135 && c.value().size() == 1)
            .map(c -> c.value().get(0)).findFirst().orElse(0);
        return new Application(number, names.get(0).value(), indicator % 16, indicator >= 128);
    }

    int insertCard() {
        List<Application> found = new ArrayList<>();
        try {
            for (Node node : nodes()) {
                Application application = applicationOf(node, found.size());
                if (application != null) {
                    found.add(application);
                }
            }
        } catch (Broken e) {
            return INVALID_STATE;
        }
        if (pending() != null) {
            return INVALID_STATE;
        }
        if (found.size() > 6) {
            return LIMIT_REACHED;
        }
        applications = found;
        selected = null;
        isNew = true;
        counter = 0;
        java.util.Arrays.fill(issuer, 0);
        return found.size();
    }

    private boolean exists(int application) {
        return application >= 0 && application < applications.size();
    }

    int priorityOf(int application) {
        return exists(application) ? applications.get(application).priority() : INVALID_ARGUMENT;
    }

    private static int swap(int[] codes, int number, int code) {
        if (number < 0 || number > 2 || code < 0 || code > 127) {
            return INVALID_ARGUMENT;
        }
        int before = codes[number];
        codes[number] = code;
        return before;
    }

    int setIssuerCode(int number, int code) {
        return swap(issuer, number, code);
    }

    // ---- terminal

    int addIdentifier(boolean partial) {
        if (buffer.size() < 5 || buffer.size() > 16) {
            return INVALID_STATE;
        }
        if (supported.size() == 5) {
            return LIMIT_REACHED;
        }
        supported.add(new Supported(List.copyOf(buffer), partial));
        return supported.size();
    }

    int removeIdentifier(int index) {
        if (index < 0 || index >= supported.size()) {
            return INVALID_ARGUMENT;
        }
        supported.remove(index);
        return supported.size();
    }

    int setTerminalCode(int number, int code) {
        return swap(own, number, code);
    }

    int setFloorLimit(int limit) {
        if (limit < 0 || limit > 99999) {
            return INVALID_ARGUMENT;
        }
        int before = floor;
        floor = limit;
        return before;
    }

    int setOfflineLimits(int newLower, int newUpper) {
        if (newLower < 0 || newLower > 15 || newUpper < newLower || newUpper > 15) {
            return INVALID_ARGUMENT;
        }
        int before = lower * 16 + upper;
        lower = newLower;
        upper = newUpper;
        return before;
    }

    int setRandomTarget(int newTarget) {
        if (newTarget < 0 || newTarget > 100) {
            return INVALID_ARGUMENT;
        }
        int before = target;
        target = newTarget;
        return before;
    }

    int setOnline(boolean can) {
        int before = online ? 1 : 0;
        online = can;
        return before;
    }

    // ---- candidate list

    private List<Application> candidates() {
        return applications.stream().filter(a -> supported.stream().anyMatch(s -> matches(a.identifier(), s)))
            .sorted(Comparator.comparingInt((Application a) -> (a.priority() + 15) % 16)).toList();
    }

    private static boolean matches(List<Integer> name, Supported by) {
        int size = by.identifier().size();
        return name.equals(by.identifier())
            || by.partial() && name.size() >= size && name.subList(0, size).equals(by.identifier());
    }

    int candidateCount() {
        return candidates().size();
    }

    int candidateAt(int index) {
        if (index < 0) {
            return INVALID_ARGUMENT;
        }
        List<Application> all = candidates();
        return index < all.size() ? all.get(index).number() : NOT_FOUND;
    }

    int select(int number, boolean confirmed) {
        if (!exists(number)) {
            return INVALID_ARGUMENT;
        }
        Application application = applications.get(number);
        if (pending() != null || application.confirm() && !confirmed) {
            return INVALID_STATE;
        }
        int at = candidates().indexOf(application);
        if (at < 0) {
            return NOT_FOUND;
        }
        selected = application;
        return at;
    }

    // ---- transactions

    private Transaction latest() {
        return transactions.isEmpty() ? null : transactions.get(transactions.size() - 1);
    }

    private Transaction pending() {
        return latest() != null && latest().outcome == 3 ? latest() : null;
    }

    private boolean hits(int results, int number) {
        return (results & own[number]) != 0 || (results & issuer[number]) != 0;
    }

    private void end(Transaction transaction, int outcome) {
        transaction.outcome = outcome;
        if (outcome == 1) {
            counter = Math.min(15, counter + 1);
        }
    }

    int start(int amount, int random) {
        if (amount < 1 || amount > 99999 || random < 0 || random > 99) {
            return INVALID_ARGUMENT;
        }
        if (selected == null || pending() != null) {
            return INVALID_STATE;
        }
        if (transactions.size() == 999) {
            return LIMIT_REACHED;
        }
        boolean[] conditions = {amount >= floor, random < target, counter >= lower, counter >= upper, isNew,
            !queue.isEmpty()};
        Transaction transaction = new Transaction();
        transaction.amount = amount;
        for (int bit = 0; bit < conditions.length; bit++) {
            transaction.results += conditions[bit] ? 1 << bit : 0;
        }
        transactions.add(transaction);
        int results = transaction.results;
        boolean canAsk = online && queue.size() < 3;
        if (hits(results, 0)) {
            end(transaction, 0);
        } else if (canAsk) {
            end(transaction, hits(results, 1) ? 3 : 1);
        } else {
            end(transaction, hits(results, 2) ? 0 : 1);
        }
        return transaction.outcome;
    }

    int answer(int answer) {
        if (answer < 0 || answer > 2) {
            return INVALID_ARGUMENT;
        }
        Transaction transaction = pending();
        if (transaction == null) {
            return INVALID_STATE;
        }
        if (answer == 0) {
            end(transaction, 0);
        } else if (answer == 1) {
            end(transaction, 2);
            counter = 0;
            isNew = false;
        } else {
            transaction.results += 64;
            queue.addLast(transactions.size() - 1);
            end(transaction, hits(transaction.results, 2) ? 0 : 1);
        }
        return transaction.outcome;
    }

    int sendReversal(boolean received) {
        if (queue.isEmpty()) {
            return INVALID_STATE;
        }
        return received ? queue.removeFirst() : queue.getFirst();
    }

    int reversalCount() {
        return queue.size();
    }

    int verificationResults() {
        return latest() == null ? NOT_FOUND : latest().results;
    }

    int outcomeCount(int outcome) {
        return outcome < 0 || outcome > 3 ? INVALID_ARGUMENT
            : (int) transactions.stream().filter(t -> t.outcome == outcome).count();
    }

    int outcomeAmount(int outcome) {
        return outcome < 0 || outcome > 3 ? INVALID_ARGUMENT
            : transactions.stream().filter(t -> t.outcome == outcome).mapToInt(t -> t.amount).sum();
    }

    int offlineCounter() {
        return counter;
    }
}

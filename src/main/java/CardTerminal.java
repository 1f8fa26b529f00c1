/** A simulator of a payment terminal for chip cards. README.md tells how to use it. */
public final class CardTerminal {
    public static final int INVALID_ARGUMENT = -1;
    public static final int INVALID_STATE = -2;
    public static final int LIMIT_REACHED = -3;
    public static final int NOT_FOUND = -4;
    public static final int DECLINED = 0, APPROVED_OFFLINE = 1, APPROVED_ONLINE = 2, PENDING = 3;
    public static final int HOST_DECLINES = 0, HOST_APPROVES = 1, ANSWER_LOST = 2;

    private static final int NONE = -1;

    private static final int MAX_BYTES = 120;
    private static final int MAX_OBJECTS = 24;
    private static final int MAX_APPLICATIONS = 6;
    private static final int MAX_SUPPORTED = 5;
    private static final int MAX_REVERSALS = 3;
    private static final int MAX_TRANSACTIONS = 999;
    private static final int MAX_AMOUNT = 99999;
    private static final int MAX_OFFLINE = 15;
    private static final int MAX_CODE = 127;
    private static final int MIN_IDENTIFIER = 5;
    private static final int MAX_IDENTIFIER = 16;

    private static final int DENIAL_CODE = 0;
    private static final int ONLINE_CODE = 1;
    private static final int DEFAULT_CODE = 2;
    private static final int CODES = 3;

    private static final int APPLICATION_TAG = 0x61;
    private static final int IDENTIFIER_TAG = 0x4F;
    private static final int PRIORITY_TAG = 0x87;

    private static final int AMOUNT_BIT = 1;
    private static final int RANDOM_BIT = 2;
    private static final int LOWER_BIT = 4;
    private static final int UPPER_BIT = 8;
    private static final int NEW_CARD_BIT = 16;
    private static final int REVERSAL_BIT = 32;
    private static final int LOST_BIT = 64;

    private final Bytes buffer;
    private final DataObjects objects;
    private final Card card;
    private final Terminal terminal;
    private final Transactions transactions;
    private final Reversals reversals;

    public CardTerminal() {
        buffer = new Bytes();
        objects = new DataObjects();
        card = new Card();
        terminal = new Terminal();
        transactions = new Transactions();
        reversals = new Reversals();
    }

    // ---- data objects

    public int appendByte(int value) {
        if (value < 0 || value > 255) {
            return INVALID_ARGUMENT;
        }
        if (buffer.size >= MAX_BYTES) {
            return LIMIT_REACHED;
        }
        buffer.add(value);
        return buffer.size;
    }

    public int clearBytes() {
        int before = buffer.size;
        buffer.size = 0;
        return before;
    }

    public int errorOffset() {
        objects.read(buffer);
        return objects.isBroken() ? objects.brokenAt : NOT_FOUND;
    }

    public int objectCount() {
        objects.read(buffer);
        return objects.isBroken() ? INVALID_STATE : objects.count;
    }

    public int objectTag(int object) {
        int error = objectError(object);
        return error != 0 ? error : at(objects.tags, object);
    }

    public int objectDepth(int object) {
        int error = objectError(object);
        return error != 0 ? error : at(objects.depths, object);
    }

    public int objectLength(int object) {
        int error = objectError(object);
        return error != 0 ? error : at(objects.lengths, object);
    }

    public int findObject(int tag, int from) {
        if (tag < 0 || from < 0) {
            return INVALID_ARGUMENT;
        }
        objects.read(buffer);
        if (objects.isBroken()) {
            return INVALID_STATE;
        }
        int found = objects.firstWithTag(tag, from);
        return found == NONE ? NOT_FOUND : found;
    }

    /** Reads the buffer too, so that a caller may look at the object if the answer is 0. */
    private int objectError(int object) {
        if (object < 0) {
            return INVALID_ARGUMENT;
        }
        objects.read(buffer);
        if (objects.isBroken()) {
            return INVALID_STATE;
        }
        return object >= objects.count ? NOT_FOUND : 0;
    }

    // ---- card

    public int insertCard() {
        objects.read(buffer);
        if (objects.isBroken() || transactions.isPending()) {
            return INVALID_STATE;
        }
        if (objects.applicationCount() > MAX_APPLICATIONS) {
            return LIMIT_REACHED;
        }
        card.renew();
        card.readApplications(objects, buffer);
        return card.identifiers.count;
    }

    public int priorityOf(int application) {
        if (!card.hasApplication(application)) {
            return INVALID_ARGUMENT;
        }
        return card.priority(application);
    }

    public int setIssuerCode(int number, int code) {
        return replaceCode(card.codes, number, code);
    }

    // ---- terminal

    public int addIdentifier(boolean partial) {
        if (buffer.size < MIN_IDENTIFIER || buffer.size > MAX_IDENTIFIER) {
            return INVALID_STATE;
        }
        if (terminal.identifiers.count >= MAX_SUPPORTED) {
            return LIMIT_REACHED;
        }
        terminal.support(buffer, partial);
        return terminal.identifiers.count;
    }

    public int removeIdentifier(int index) {
        if (index < 0 || index >= terminal.identifiers.count) {
            return INVALID_ARGUMENT;
        }
        terminal.dropSupport(index);
        return terminal.identifiers.count;
    }

    public int setTerminalCode(int number, int code) {
        return replaceCode(terminal.codes, number, code);
    }

    public int setFloorLimit(int limit) {
        if (limit < 0 || limit > MAX_AMOUNT) {
            return INVALID_ARGUMENT;
        }
        int before = terminal.floorLimit;
        terminal.floorLimit = limit;
        return before;
    }

    public int setOfflineLimits(int lower, int upper) {
        if (lower < 0 || lower > upper || upper > MAX_OFFLINE) {
            return INVALID_ARGUMENT;
        }
        int before = 16 * terminal.lowerLimit + terminal.upperLimit;
        terminal.lowerLimit = lower;
        terminal.upperLimit = upper;
        return before;
    }

    public int setRandomTarget(int target) {
        if (target < 0 || target > 100) {
            return INVALID_ARGUMENT;
        }
        int before = terminal.randomTarget;
        terminal.randomTarget = target;
        return before;
    }

    public int setOnline(boolean online) {
        int before = terminal.online ? 1 : 0;
        terminal.online = online;
        return before;
    }

    private static int replaceCode(int[] codes, int number, int code) {
        if (number < 0 || number >= CODES || code < 0 || code > MAX_CODE) {
            return INVALID_ARGUMENT;
        }
        int before = at(codes, number);
        put(codes, number, code);
        return before;
    }

    // ---- candidate list

    public int candidateCount() {
        int count = 0;
        for (int application = 0; application < card.identifiers.count; application++) {
            if (isCandidate(application)) {
                count++;
            }
        }
        return count;
    }

    public int candidateAt(int index) {
        if (index < 0) {
            return INVALID_ARGUMENT;
        }
        for (int application = 0; application < card.identifiers.count; application++) {
            if (isCandidate(application) && candidatesBefore(application) == index) {
                return application;
            }
        }
        return NOT_FOUND;
    }

    public int select(int application, boolean confirmed) {
        if (!card.hasApplication(application)) {
            return INVALID_ARGUMENT;
        }
        if (transactions.isPending() || card.needsConfirmation(application) && !confirmed) {
            return INVALID_STATE;
        }
        if (!isCandidate(application)) {
            return NOT_FOUND;
        }
        card.selected = application;
        return candidatesBefore(application);
    }

    private boolean isCandidate(int application) {
        return terminal.supports(card.identifiers, application);
    }

    private int candidatesBefore(int application) {
        int before = 0;
        for (int other = 0; other < card.identifiers.count; other++) {
            if (isCandidate(other) && card.comesBefore(other, application)) {
                before++;
            }
        }
        return before;
    }

    // ---- transactions

    public int start(int amount, int random) {
        if (amount < 1 || amount > MAX_AMOUNT || random < 0 || random > 99) {
            return INVALID_ARGUMENT;
        }
        if (card.selected == NONE || transactions.isPending()) {
            return INVALID_STATE;
        }
        if (transactions.count >= MAX_TRANSACTIONS) {
            return LIMIT_REACHED;
        }
        int results = verify(amount, random);
        int outcome = decide(results);
        transactions.open(amount, results, outcome);
        countIfOffline(outcome);
        return outcome;
    }

    public int answer(int answer) {
        if (answer < HOST_DECLINES || answer > ANSWER_LOST) {
            return INVALID_ARGUMENT;
        }
        if (!transactions.isPending()) {
            return INVALID_STATE;
        }
        int outcome = DECLINED;
        if (answer == HOST_APPROVES) {
            card.passOnline();
            outcome = APPROVED_ONLINE;
        } else if (answer == ANSWER_LOST) {
            transactions.latestResults |= LOST_BIT;
            reversals.add(transactions.count - 1);
            outcome = decideWithoutHost(transactions.latestResults);
        }
        transactions.settle(outcome);
        countIfOffline(outcome);
        return outcome;
    }

    public int sendReversal(boolean received) {
        if (reversals.count == 0) {
            return INVALID_STATE;
        }
        int transaction = reversals.first();
        if (received) {
            reversals.dropFirst();
        }
        return transaction;
    }

    public int reversalCount() {
        return reversals.count;
    }

    public int verificationResults() {
        return transactions.count == 0 ? NOT_FOUND : transactions.latestResults;
    }

    public int outcomeCount(int outcome) {
        return isOutcome(outcome) ? at(transactions.counts, outcome) : INVALID_ARGUMENT;
    }

    public int outcomeAmount(int outcome) {
        return isOutcome(outcome) ? at(transactions.sums, outcome) : INVALID_ARGUMENT;
    }

    public int offlineCounter() {
        return card.offlineCount;
    }

    private static boolean isOutcome(int outcome) {
        return outcome >= DECLINED && outcome <= PENDING;
    }

    private int verify(int amount, int random) {
        int results = 0;
        if (amount >= terminal.floorLimit) {
            results |= AMOUNT_BIT;
        }
        if (random < terminal.randomTarget) {
            results |= RANDOM_BIT;
        }
        if (card.offlineCount >= terminal.lowerLimit) {
            results |= LOWER_BIT;
        }
        if (card.offlineCount >= terminal.upperLimit) {
            results |= UPPER_BIT;
        }
        if (card.isNew) {
            results |= NEW_CARD_BIT;
        }
        if (reversals.count > 0) {
            results |= REVERSAL_BIT;
        }
        return results;
    }

    private int decide(int results) {
        if (isHitBy(DENIAL_CODE, results)) {
            return DECLINED;
        }
        if (terminal.online && reversals.count < MAX_REVERSALS) {
            return isHitBy(ONLINE_CODE, results) ? PENDING : APPROVED_OFFLINE;
        }
        return decideWithoutHost(results);
    }

    private int decideWithoutHost(int results) {
        return isHitBy(DEFAULT_CODE, results) ? DECLINED : APPROVED_OFFLINE;
    }

    private boolean isHitBy(int number, int results) {
        int code = at(terminal.codes, number) | at(card.codes, number);
        return (results & code) != 0;
    }

    private void countIfOffline(int outcome) {
        if (outcome == APPROVED_OFFLINE) {
            card.countOffline();
        }
    }

    // Every row is read and written through these two, so that no index can make the machine throw.

    private static int at(int[] row, int index) {
        return index >= 0 && index < row.length ? row[index] : 0;
    }

    private static void put(int[] row, int index, int value) {
        if (index >= 0 && index < row.length) {
            row[index] = value;
        }
    }

    private static final class Bytes {
        final int[] values = new int[MAX_BYTES];
        int size = 0;

        void add(int value) {
            if (size < MAX_BYTES) {
                put(values, size, value);
                size++;
            }
        }
    }

    /** What the byte buffer reads as; each call that looks at it reads the buffer anew. */
    private static final class DataObjects {
        final int[] tags = new int[MAX_OBJECTS];
        final int[] lengths = new int[MAX_OBJECTS];
        final int[] depths = new int[MAX_OBJECTS];
        final int[] parents = new int[MAX_OBJECTS];
        final int[] valueStarts = new int[MAX_OBJECTS];
        int count = 0;
        int brokenAt = NONE;
        private int place = 0;

        boolean isBroken() {
            return brokenAt != NONE;
        }

        void read(Bytes bytes) {
            count = 0;
            brokenAt = NONE;
            place = 0;
            int parent = NONE;
            // One round more than there may be objects: the last one finds the end or a tag too many.
            for (int round = 0; round <= MAX_OBJECTS; round++) {
                parent = stillOpen(parent);
                if (place >= bytes.size) {
                    return;
                }
                if (count >= MAX_OBJECTS) {
                    brokenAt = place;
                    return;
                }
                int end = parent == NONE ? bytes.size : valueEnd(parent);
                boolean constructed = (at(bytes.values, place) & 32) != 0;
                if (!readTag(bytes, end) || !readLength(bytes, end)) {
                    return;
                }
                put(parents, count, parent);
                put(depths, count, parent == NONE ? 0 : at(depths, parent) + 1);
                put(valueStarts, count, place);
                if (constructed) {
                    parent = count;
                } else {
                    place += at(lengths, count);
                }
                count++;
            }
        }

        /** The innermost object from this one outwards whose value does not end at the place. */
        private int stillOpen(int object) {
            int open = object;
            for (int level = 0; level < MAX_OBJECTS && open != NONE && place >= valueEnd(open); level++) {
                open = at(parents, open);
            }
            return open;
        }

        private int valueEnd(int object) {
            return at(valueStarts, object) + at(lengths, object);
        }

        private boolean readTag(Bytes bytes, int end) {
            int tag = at(bytes.values, place);
            place++;
            if ((tag & 31) == 31) {
                if (place >= end) {
                    return breakAt(end);
                }
                int second = at(bytes.values, place);
                if (second >= 128) {
                    return breakAt(place);
                }
                tag = 256 * tag + second;
                place++;
            }
            put(tags, count, tag);
            return true;
        }

        private boolean readLength(Bytes bytes, int end) {
            int start = place;
            if (place >= end) {
                return breakAt(end);
            }
            int length = at(bytes.values, place);
            place++;
            if (length == 129) {
                if (place >= end) {
                    return breakAt(end);
                }
                length = at(bytes.values, place);
                place++;
            } else if (length > 127) {
                return breakAt(start);
            }
            if (length > end - place) {
                return breakAt(start);
            }
            put(lengths, count, length);
            return true;
        }

        private boolean breakAt(int offset) {
            brokenAt = offset;
            return false;
        }

        int firstWithTag(int tag, int from) {
            for (int object = from; object < count; object++) {
                if (at(tags, object) == tag) {
                    return object;
                }
            }
            return NONE;
        }

        int applicationCount() {
            int applications = 0;
            for (int object = 0; object < count; object++) {
                if (identifierIn(object) != NONE) {
                    applications++;
                }
            }
            return applications;
        }

        /** The child that makes this object an application, or NONE if it is no application. */
        int identifierIn(int object) {
            if (at(tags, object) != APPLICATION_TAG) {
                return NONE;
            }
            int first = childFrom(object + 1, object, IDENTIFIER_TAG, MIN_IDENTIFIER, MAX_IDENTIFIER);
            if (first == NONE) {
                return NONE;
            }
            int second = childFrom(first + 1, object, IDENTIFIER_TAG, MIN_IDENTIFIER, MAX_IDENTIFIER);
            return second == NONE ? first : NONE;
        }

        int priorityIn(int object) {
            return childFrom(object + 1, object, PRIORITY_TAG, 1, 1);
        }

        private int childFrom(int from, int parent, int tag, int shortest, int longest) {
            for (int child = from; child < count; child++) {
                int length = at(lengths, child);
                if (at(parents, child) == parent && at(tags, child) == tag
                        && length >= shortest && length <= longest) {
                    return child;
                }
            }
            return NONE;
        }
    }

    /** A list of identifiers, each in a stretch of its own of one row. */
    private static final class Identifiers {
        /** Room for those of a card, which are more than those of a terminal. */
        static final int MAX_IDENTIFIERS = MAX_APPLICATIONS;
        final int[] lengths = new int[MAX_IDENTIFIERS];
        int count = 0;
        private final int[] values = new int[MAX_IDENTIFIERS * MAX_IDENTIFIER];

        void add(Bytes bytes, int from, int length) {
            if (count >= MAX_IDENTIFIERS || length > MAX_IDENTIFIER) {
                return;
            }
            for (int i = 0; i < length; i++) {
                put(values, count * MAX_IDENTIFIER + i, at(bytes.values, from + i));
            }
            put(lengths, count, length);
            count++;
        }

        void drop(int index) {
            if (index < 0 || index >= count) {
                return;
            }
            for (int i = index; i < count - 1; i++) {
                copyDown(i);
            }
            count--;
        }

        private void copyDown(int index) {
            put(lengths, index, at(lengths, index + 1));
            for (int i = 0; i < MAX_IDENTIFIER; i++) {
                put(values, index * MAX_IDENTIFIER + i, valueAt(index + 1, i));
            }
        }

        int valueAt(int index, int i) {
            return at(values, index * MAX_IDENTIFIER + i);
        }

        boolean beginsWith(int index, Identifiers others, int other) {
            int length = at(others.lengths, other);
            if (length > at(lengths, index)) {
                return false;
            }
            for (int i = 0; i < length; i++) {
                if (valueAt(index, i) != others.valueAt(other, i)) {
                    return false;
                }
            }
            return true;
        }
    }

    private static final class Card {
        final Identifiers identifiers = new Identifiers();
        final int[] codes = new int[CODES];
        int selected = NONE;
        int offlineCount = 0;
        boolean isNew = true;
        /** The byte of each application that tells its priority and whether it needs confirmation. */
        private final int[] indicators = new int[MAX_APPLICATIONS];

        void renew() {
            identifiers.count = 0;
            selected = NONE;
            offlineCount = 0;
            isNew = true;
            for (int number = 0; number < CODES; number++) {
                put(codes, number, 0);
            }
        }

        void readApplications(DataObjects objects, Bytes bytes) {
            for (int object = 0; object < objects.count; object++) {
                int identifier = objects.identifierIn(object);
                if (identifier != NONE) {
                    put(indicators, identifiers.count, indicatorIn(object, objects, bytes));
                    identifiers.add(bytes, at(objects.valueStarts, identifier), at(objects.lengths, identifier));
                }
            }
        }

        private int indicatorIn(int object, DataObjects objects, Bytes bytes) {
            int child = objects.priorityIn(object);
            return child == NONE ? 0 : at(bytes.values, at(objects.valueStarts, child));
        }

        boolean hasApplication(int application) {
            return application >= 0 && application < identifiers.count;
        }

        int priority(int application) {
            return at(indicators, application) & 15;
        }

        boolean needsConfirmation(int application) {
            return (at(indicators, application) & 128) != 0;
        }

        boolean comesBefore(int one, int other) {
            int rankOfOne = rank(one);
            int rankOfOther = rank(other);
            return rankOfOne < rankOfOther || rankOfOne == rankOfOther && one < other;
        }

        /** Priority 0 means that there is none, so it ranks behind 15. */
        private int rank(int application) {
            int priority = priority(application);
            return priority == 0 ? 16 : priority;
        }

        void countOffline() {
            if (offlineCount < MAX_OFFLINE) {
                offlineCount++;
            }
        }

        void passOnline() {
            offlineCount = 0;
            isNew = false;
        }
    }

    private static final class Terminal {
        final Identifiers identifiers = new Identifiers();
        final int[] codes = {0, 31, 8};
        int floorLimit = 5000;
        int lowerLimit = 2;
        int upperLimit = 4;
        int randomTarget = 0;
        boolean online = true;
        /** 1 for each supported identifier with the flag for partial selection, 0 for the others. */
        private final int[] partials = new int[MAX_SUPPORTED];

        void support(Bytes bytes, boolean partial) {
            put(partials, identifiers.count, partial ? 1 : 0);
            identifiers.add(bytes, 0, bytes.size);
        }

        void dropSupport(int index) {
            for (int i = index; i < identifiers.count - 1; i++) {
                put(partials, i, at(partials, i + 1));
            }
            identifiers.drop(index);
        }

        boolean supports(Identifiers applications, int application) {
            for (int i = 0; i < identifiers.count; i++) {
                if (applications.beginsWith(application, identifiers, i)
                        && (at(partials, i) == 1 || sameLength(applications, application, i))) {
                    return true;
                }
            }
            return false;
        }

        private boolean sameLength(Identifiers applications, int application, int index) {
            return at(applications.lengths, application) == at(identifiers.lengths, index);
        }
    }

    /** Only the latest transaction can be pending, so of the others the counts and sums are enough. */
    private static final class Transactions {
        final int[] counts = new int[PENDING + 1];
        final int[] sums = new int[PENDING + 1];
        int count = 0;
        int latestResults = 0;
        private int latestAmount = 0;

        boolean isPending() {
            return at(counts, PENDING) > 0;
        }

        void open(int amount, int results, int outcome) {
            count++;
            latestAmount = amount;
            latestResults = results;
            book(outcome, 1, amount);
        }

        void settle(int outcome) {
            book(PENDING, -1, -latestAmount);
            book(outcome, 1, latestAmount);
        }

        private void book(int outcome, int number, int amount) {
            put(counts, outcome, at(counts, outcome) + number);
            put(sums, outcome, at(sums, outcome) + amount);
        }
    }

    /** The queue stays within its row: with a full one no transaction becomes pending. */
    private static final class Reversals {
        int count = 0;
        private final int[] numbers = new int[MAX_REVERSALS];

        void add(int transaction) {
            if (count < MAX_REVERSALS) {
                put(numbers, count, transaction);
                count++;
            }
        }

        int first() {
            return at(numbers, 0);
        }

        void dropFirst() {
            if (count == 0) {
                return;
            }
            for (int i = 0; i < count - 1; i++) {
                put(numbers, i, at(numbers, i + 1));
            }
            count--;
        }
    }
}

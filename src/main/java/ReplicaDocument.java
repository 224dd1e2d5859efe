/**
 * A document of maps and lists that three replicas edit apart from one another.
 *
 * <p>Every row is made in a constructor and used again, so that no call makes an object.
 */
public final class ReplicaDocument {
    public static final int NONE = -1;
    public static final int BROKEN = -2;
    public static final int CLASH = -3;
    public static final int FORGED = -4;
    public static final int GAP = -5;
    public static final int ORDER = -6;
    public static final int FULL = -7;
    public static final int AGAIN = -8;

    private static final int REPLICAS = 3;
    private static final int KEYS = 4;
    private static final int MOST_HELD = 16;
    private static final int MOST_BEFORE = 6;
    private static final int MOST_COUNT = 40;
    private static final int MOST_VALUE = 99;
    private static final int MOST_WIRE = 16;
    private static final int MOST_BYTE = 255;
    private static final int HEADER = 6;

    private static final int PUT = 0;
    private static final int MAP = 1;
    private static final int LIST = 2;
    private static final int INSERT = 3;
    private static final int ERASE = 4;
    private static final int CLEAR = 5;

    private static final int ROOT = 0;
    private static final int FRONT = 0;
    private static final int HOW_MANY = -1;

    private final Replica[] replicas;
    private final Contents contents;
    private final Wire line;
    private final Operation draft;

    public ReplicaDocument() {
        replicas = new Replica[REPLICAS];
        for (int r = 0; r < REPLICAS; r++) {
            replicas[r] = new Replica(r);
        }
        contents = new Contents();
        line = new Wire();
        draft = new Operation();
    }

    public int edit(int r, int kind, int target, int slot, int value) {
        if (!isReplica(r)) {
            return NONE;
        }
        draft.begin(NONE, kind, target, slot, value);
        if (!draft.hasSoundParts() || !replicas[r].hasPlaceFor(draft)) {
            return NONE;
        }
        return replicas[r].issue(draft);
    }

    public int emit(int r, int id) {
        if (!isReplica(r)) {
            return NONE;
        }
        int position = replicas[r].find(id, replicas[r].heldCount);
        if (position == NONE) {
            return NONE;
        }
        line.write(replicas[r].operations[position]);
        return line.length;
    }

    public int wire(int k) {
        return k == HOW_MANY ? line.length : line.byteAt(k);
    }

    public boolean alter(int k, int b) {
        return line.change(k, b);
    }

    public boolean cut(int n) {
        return line.shorten(n);
    }

    public int receive(int r) {
        if (!isReplica(r)) {
            return NONE;
        }
        if (!line.readInto(draft)) {
            return BROKEN;
        }
        return replicas[r].take(draft);
    }

    public int held(int r) {
        return isReplica(r) ? replicas[r].heldCount : NONE;
    }

    public int log(int r, int k) {
        if (!isReplica(r)) {
            return NONE;
        }
        Replica replica = replicas[r];
        if (k == HOW_MANY) {
            return replica.appliedCount;
        }
        return k >= 0 && k < replica.appliedCount ? replica.operations[k].id : NONE;
    }

    public boolean past(int r, int x, int y) {
        if (!isReplica(r)) {
            return false;
        }
        Replica replica = replicas[r];
        int earlier = replica.find(x, replica.appliedCount);
        int later = replica.find(y, replica.appliedCount);
        return earlier != NONE && later != NONE && replica.hasInPast(earlier, later);
    }

    public int heads(int r) {
        return isReplica(r) ? replicas[r].countHeads() : NONE;
    }

    public int entry(int r, int m, int key, int k) {
        if (!isReplica(r) || !replicas[r].isMap(m) || !isKey(key)) {
            return NONE;
        }
        return contents.findEntry(replicas[r], m, key, k);
    }

    public int element(int r, int l, int k) {
        if (!isReplica(r) || !replicas[r].isList(l)) {
            return NONE;
        }
        return contents.findElement(replicas[r], l, k);
    }

    public int value(int r, int id) {
        if (!isReplica(r)) {
            return NONE;
        }
        int position = replicas[r].find(id, replicas[r].appliedCount);
        return position == NONE ? NONE : replicas[r].operations[position].value;
    }

    public int depth(int r, int id) {
        return isReplica(r) ? contents.countLevels(replicas[r], id) : NONE;
    }

    public int sum(int r) {
        return isReplica(r) ? contents.addUp(replicas[r]) : 0;
    }

    public boolean level(int a, int b) {
        return isReplica(a) && isReplica(b) && replicas[a].hasAppliedSameAs(replicas[b]);
    }

    private static boolean isReplica(int r) {
        return r >= 0 && r < REPLICAS;
    }

    private static boolean isKey(int key) {
        return key >= 0 && key < KEYS;
    }

    private static boolean isId(int id) {
        int count = id >> 2;
        return count >= 1 && count <= MOST_COUNT && isReplica(id & 3);
    }

    /** One operation, in a row that may be filled again. */
    private static final class Operation {
        final int[] before;
        int beforeCount;
        int id;
        int kind;
        int target;
        int slot;
        int value;

        Operation() {
            before = new int[MOST_BEFORE];
        }

        void begin(int newId, int newKind, int newTarget, int newSlot, int newValue) {
            id = newId;
            kind = newKind;
            target = newTarget;
            slot = newSlot;
            value = newValue;
            beforeCount = 0;
        }

        void copyFrom(Operation other) {
            begin(other.id, other.kind, other.target, other.slot, other.value);
            System.arraycopy(other.before, 0, before, 0, MOST_BEFORE);
            beforeCount = other.beforeCount;
        }

        /** Keeps BEFORE ascending; false when it has no room left. */
        boolean addBefore(int earlier) {
            if (beforeCount >= MOST_BEFORE) {
                return false;
            }
            int place = beforeCount;
            while (place > 0 && before[place - 1] > earlier) {
                before[place] = before[place - 1];
                place--;
            }
            before[place] = earlier;
            beforeCount++;
            return true;
        }

        boolean hasBefore(int earlier) {
            for (int i = 0; i < beforeCount; i++) {
                if (before[i] == earlier) {
                    return true;
                }
            }
            return false;
        }

        boolean writesToMap() {
            return kind == PUT || kind == MAP || kind == LIST || kind == CLEAR;
        }

        boolean names(int other) {
            return other != ROOT && (target == other || (kind == INSERT && slot == other));
        }

        boolean namesOnlyBefore() {
            boolean slotIsNamed = kind == INSERT && slot != FRONT;
            return (target == ROOT || hasBefore(target)) && (!slotIsNamed || hasBefore(slot));
        }

        boolean isBehindBefore() {
            for (int i = 0; i < beforeCount; i++) {
                if (before[i] >= id) {
                    return false;
                }
            }
            return true;
        }

        /** Whether kind, target, slot and value are numbers that can stand together. */
        boolean hasSoundParts() {
            if (writesToMap()) {
                return (target == ROOT || isId(target)) && isKey(slot) && hasSoundValue();
            }
            if (kind == INSERT) {
                return isId(target) && (slot == FRONT || isId(slot)) && hasSoundValue();
            }
            return kind == ERASE && isId(target) && slot == 0 && hasSoundValue();
        }

        private boolean hasSoundValue() {
            int most = kind == PUT || kind == INSERT ? MOST_VALUE : 0;
            return value >= 0 && value <= most;
        }

        boolean hasSameBytesAs(Operation other) {
            if (id != other.id || kind != other.kind || target != other.target
                    || slot != other.slot || value != other.value || beforeCount != other.beforeCount) {
                return false;
            }
            for (int i = 0; i < beforeCount; i++) {
                if (before[i] != other.before[i]) {
                    return false;
                }
            }
            return true;
        }
    }

    /** The bytes on their way from one replica to another. */
    private static final class Wire {
        final int[] bytes;
        int length;

        Wire() {
            bytes = new int[MOST_WIRE];
        }

        int byteAt(int k) {
            return k >= 0 && k < length ? bytes[k] : NONE;
        }

        boolean change(int k, int b) {
            if (k < 0 || k > length || k >= MOST_WIRE || b < 0 || b > MOST_BYTE) {
                return false;
            }
            bytes[k] = b;
            length = Math.max(length, k + 1);
            return true;
        }

        boolean shorten(int n) {
            if (n < 0 || n > length) {
                return false;
            }
            length = n;
            return true;
        }

        void write(Operation operation) {
            bytes[0] = operation.id;
            bytes[1] = operation.kind;
            bytes[2] = operation.target;
            bytes[3] = operation.slot;
            bytes[4] = operation.value;
            bytes[5] = operation.beforeCount;
            System.arraycopy(operation.before, 0, bytes, HEADER, operation.beforeCount);
            length = HEADER + operation.beforeCount;
        }

        /** False when the bytes are not well formed; the operation is of no use then. */
        boolean readInto(Operation operation) {
            if (length < HEADER || bytes[5] > MOST_BEFORE || length != HEADER + bytes[5]) {
                return false;
            }
            operation.begin(bytes[0], bytes[1], bytes[2], bytes[3], bytes[4]);
            int last = 0;
            for (int i = HEADER; i < length; i++) {
                if (!isId(bytes[i]) || bytes[i] <= last || !operation.addBefore(bytes[i])) {
                    return false;
                }
                last = bytes[i];
            }
            return isId(operation.id) && operation.hasSoundParts();
        }
    }

    /**
     * What one replica holds: the log first, and behind it the operations that wait.
     *
     * <p>All that an operation names is in its BEFORE and so applied ahead of it: its past and
     * whether it fits are known for good when it is applied.
     */
    private static final class Replica {
        final int number;
        final Operation[] operations;
        final int[] pasts;
        final boolean[] fitting;
        final int[] byId;
        int appliedCount;
        int heldCount;

        Replica(int newNumber) {
            number = newNumber;
            operations = new Operation[MOST_HELD];
            for (int i = 0; i < MOST_HELD; i++) {
                operations[i] = new Operation();
            }
            pasts = new int[MOST_HELD];
            fitting = new boolean[MOST_HELD];
            byId = new int[MOST_HELD];
        }

        /** Where the id stands among the first so many operations, or NONE. */
        int find(int id, int count) {
            for (int p = 0; p < count; p++) {
                if (operations[p].id == id) {
                    return p;
                }
            }
            return NONE;
        }

        boolean isMap(int id) {
            int p = find(id, appliedCount);
            return id == ROOT || (p != NONE && operations[p].kind == MAP);
        }

        boolean isList(int id) {
            int p = find(id, appliedCount);
            return p != NONE && operations[p].kind == LIST;
        }

        /** The place in the log of an INSERT that fits, or NONE. */
        private int findInsert(int id) {
            int p = find(id, appliedCount);
            return p != NONE && fitting[p] && operations[p].kind == INSERT ? p : NONE;
        }

        /** Whether the operation fits what has been applied so far. */
        boolean hasPlaceFor(Operation operation) {
            if (operation.kind == INSERT) {
                int p = findInsert(operation.slot);
                boolean slotFits = operation.slot == FRONT
                        || (p != NONE && operations[p].target == operation.target);
                return slotFits && isList(operation.target);
            }
            if (operation.kind == ERASE) {
                return findInsert(operation.target) != NONE;
            }
            return isMap(operation.target);
        }

        /** Both are places in the log. */
        boolean hasInPast(int earlier, int later) {
            return (pasts[later] >> earlier & 1) == 1;
        }

        boolean isHead(int position) {
            for (int p = 0; p < appliedCount; p++) {
                if (operations[p].hasBefore(operations[position].id)) {
                    return false;
                }
            }
            return true;
        }

        int countHeads() {
            int count = 0;
            for (int p = 0; p < appliedCount; p++) {
                if (isHead(p)) {
                    count++;
                }
            }
            return count;
        }

        /** Gives the draft its id and BEFORE, and applies it. */
        int issue(Operation draft) {
            int count = greatestCount() + 1;
            if (heldCount >= MOST_HELD || count > MOST_COUNT || !gatherBefore(draft)) {
                return FULL;
            }
            draft.id = 4 * count + number;
            keep(draft);
            applyWaiting(heldCount - 1);
            settle();
            return draft.id;
        }

        private int greatestCount() {
            return appliedCount == 0 ? 0 : operations[byId[appliedCount - 1]].id >> 2;
        }

        private boolean gatherBefore(Operation draft) {
            for (int p = 0; p < appliedCount; p++) {
                int id = operations[p].id;
                if ((isHead(p) || draft.names(id)) && !draft.addBefore(id)) {
                    return false;
                }
            }
            return true;
        }

        int take(Operation draft) {
            int position = find(draft.id, heldCount);
            if (position != NONE) {
                return operations[position].hasSameBytesAs(draft) ? AGAIN : CLASH;
            }
            // What a replica has issued it holds for good: an own id that is not held was never issued.
            if ((draft.id & 3) == number) {
                return FORGED;
            }
            if (!draft.namesOnlyBefore()) {
                return GAP;
            }
            if (!draft.isBehindBefore()) {
                return ORDER;
            }
            if (heldCount >= MOST_HELD) {
                return FULL;
            }
            keep(draft);
            return settle();
        }

        private void keep(Operation draft) {
            operations[heldCount].copyFrom(draft);
            heldCount++;
        }

        private int settle() {
            int settled = 0;
            for (int step = 0; step < MOST_HELD; step++) {
                int next = findLeastReady();
                if (next == NONE) {
                    return settled;
                }
                applyWaiting(next);
                settled++;
            }
            return settled;
        }

        private int findLeastReady() {
            int least = NONE;
            for (int p = appliedCount; p < heldCount; p++) {
                if (isReady(operations[p]) && (least == NONE || operations[p].id < operations[least].id)) {
                    least = p;
                }
            }
            return least;
        }

        private boolean isReady(Operation operation) {
            for (int i = 0; i < operation.beforeCount; i++) {
                if (find(operation.before[i], appliedCount) == NONE) {
                    return false;
                }
            }
            return true;
        }

        private void applyWaiting(int position) {
            Operation operation = operations[position];
            operations[position] = operations[appliedCount];
            operations[appliedCount] = operation;
            pasts[appliedCount] = gatherPast(operation);
            fitting[appliedCount] = hasPlaceFor(operation);
            fileById(operation.id);
            appliedCount++;
        }

        private int gatherPast(Operation operation) {
            int gathered = 0;
            for (int i = 0; i < operation.beforeCount; i++) {
                int p = find(operation.before[i], appliedCount);
                if (p != NONE) {
                    gathered |= pasts[p] | 1 << p;
                }
            }
            return gathered;
        }

        private void fileById(int id) {
            int place = appliedCount;
            while (place > 0 && operations[byId[place - 1]].id > id) {
                byId[place] = byId[place - 1];
                place--;
            }
            byId[place] = appliedCount;
        }

        boolean hasAppliedSameAs(Replica other) {
            if (appliedCount != other.appliedCount) {
                return false;
            }
            for (int p = 0; p < appliedCount; p++) {
                int q = other.find(operations[p].id, other.appliedCount);
                if (q == NONE || !operations[p].hasSameBytesAs(other.operations[q])) {
                    return false;
                }
            }
            return true;
        }
    }

    /** Reads the document that a replica's applied operations make. */
    private static final class Contents {
        final int[] arranged;
        final int[] sums;

        Contents() {
            arranged = new int[MOST_HELD];
            sums = new int[MOST_HELD];
        }

        int findEntry(Replica replica, int map, int key, int k) {
            int seen = 0;
            for (int i = 0; i < replica.appliedCount; i++) {
                int p = replica.byId[i];
                if (isEntryAt(replica, map, key, p)) {
                    if (seen == k) {
                        return replica.operations[p].id;
                    }
                    seen++;
                }
            }
            return k == HOW_MANY ? seen : NONE;
        }

        private boolean isEntryAt(Replica replica, int map, int key, int position) {
            Operation operation = replica.operations[position];
            return operation.target == map && operation.slot == key && isEntry(replica, position);
        }

        private boolean isEntry(Replica replica, int position) {
            Operation operation = replica.operations[position];
            if (!replica.fitting[position] || !operation.writesToMap() || operation.kind == CLEAR) {
                return false;
            }
            for (int p = 0; p < replica.appliedCount; p++) {
                if (replica.hasInPast(position, p) && writesSamePlace(replica, p, operation)) {
                    return false;
                }
            }
            return true;
        }

        private boolean writesSamePlace(Replica replica, int position, Operation operation) {
            Operation writer = replica.operations[position];
            return replica.fitting[position] && writer.writesToMap()
                    && writer.target == operation.target && writer.slot == operation.slot;
        }

        int findElement(Replica replica, int list, int k) {
            int count = arrange(replica, list);
            int seen = 0;
            for (int i = 0; i < count; i++) {
                int p = arranged[i];
                if (!isGone(replica, p)) {
                    if (seen == k) {
                        return replica.operations[p].id;
                    }
                    seen++;
                }
            }
            return k == HOW_MANY ? seen : NONE;
        }

        /**
         * Lays the list's elements, gone or not, into their order, and answers how many there are.
         *
         * <p>An element has a greater id than the one it follows, so going by ascending id each
         * finds its place right behind that one, ahead of those that came to it earlier.
         */
        private int arrange(Replica replica, int list) {
            int count = 0;
            for (int i = 0; i < replica.appliedCount; i++) {
                int p = replica.byId[i];
                Operation operation = replica.operations[p];
                if (replica.fitting[p] && operation.kind == INSERT && operation.target == list) {
                    placeBehind(replica, operation.slot, p, count);
                    count++;
                }
            }
            return count;
        }

        private void placeBehind(Replica replica, int slot, int position, int count) {
            int place = count;
            while (place > 0 && !(slot != FRONT && replica.operations[arranged[place - 1]].id == slot)) {
                arranged[place] = arranged[place - 1];
                place--;
            }
            arranged[place] = position;
        }

        private boolean isGone(Replica replica, int position) {
            int id = replica.operations[position].id;
            for (int p = 0; p < replica.appliedCount; p++) {
                Operation eraser = replica.operations[p];
                if (replica.fitting[p] && eraser.kind == ERASE && eraser.target == id) {
                    return true;
                }
            }
            return false;
        }

        /** The DEPTH: the steps from an id up to the root, or NONE when one of them is not shown. */
        int countLevels(Replica replica, int id) {
            int at = id;
            for (int levels = 0; levels <= MOST_HELD; levels++) {
                if (at == ROOT) {
                    return levels;
                }
                int p = replica.find(at, replica.appliedCount);
                if (p == NONE || !isShown(replica, p)) {
                    return NONE;
                }
                at = replica.operations[p].target;
            }
            return NONE;
        }

        private boolean isShown(Replica replica, int position) {
            if (replica.operations[position].kind == INSERT) {
                return replica.fitting[position] && !isGone(replica, position);
            }
            return isEntry(replica, position);
        }

        /**
         * The SUM of the root. What stands in a map or list is applied behind it, so going back
         * through the log every part is added up ahead of the whole.
         */
        int addUp(Replica replica) {
            for (int p = replica.appliedCount - 1; p >= 0; p--) {
                Operation operation = replica.operations[p];
                if (operation.kind == MAP) {
                    sums[p] = addUpMap(replica, operation.id);
                } else if (operation.kind == LIST) {
                    sums[p] = addUpList(replica, operation.id);
                } else {
                    sums[p] = operation.value;
                }
            }
            return addUpMap(replica, ROOT);
        }

        private int addUpMap(Replica replica, int map) {
            int s = 7;
            for (int key = 0; key < KEYS; key++) {
                for (int i = 0; i < replica.appliedCount; i++) {
                    int p = replica.byId[i];
                    if (isEntryAt(replica, map, key, p)) {
                        s = 31 * s + 4 * replica.operations[p].id + key;
                        s = 31 * s + sums[p];
                    }
                }
            }
            return s;
        }

        private int addUpList(Replica replica, int list) {
            int count = arrange(replica, list);
            int s = 11;
            for (int i = 0; i < count; i++) {
                int p = arranged[i];
                if (!isGone(replica, p)) {
                    s = 31 * s + 128 * replica.operations[p].id + replica.operations[p].value;
                }
            }
            return s;
        }
    }
}

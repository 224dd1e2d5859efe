/** "Terms": which operations FIT, "What does not fit changes nothing in the document", and the set alone. */
public final class FitTest {
    private static final Checks CHECKS = new Checks("FitTest");
    private static final int MAP = 4;
    private static final int LIST = 8;
    private static final int ELEMENT = 12;
    private static final int GONE = 16;
    private static final int PUT = 20;
    private static final int ERASE = 24;
    private static final int CLEAR = 28;
    private static final int HEAD = 32;

    public static void main(String[] args) {
        everyKindOnEveryTarget();
        slotOfAnInsertFitsToo();
        whatWaitsIsNoTarget();
        insertsThatDoNotFitCarryNone();
        mapsAndListsNeedNotFitThemselves();
        goneElementsFitStill();
        setAloneCounts();
        CHECKS.end();
    }

    /** An operation of every kind, all but the CLEAR with something to be seen in the sum. */
    private static ReplicaDocument build() {
        ReplicaDocument x = new ReplicaDocument();
        x.edit(0, 1, 0, 0, 0);
        x.edit(0, 2, 0, 1, 0);
        x.edit(0, 3, LIST, 0, 5);
        x.edit(0, 3, LIST, 0, 6);
        x.edit(0, 0, 0, 2, 7);
        x.edit(0, 4, GONE, 0, 0);
        x.edit(0, 5, 0, 3, 0);
        x.edit(0, 0, MAP, 0, 8);
        return x;
    }

    private static boolean fits(int kind, int target) {
        if (kind == 3) {
            return target == LIST;
        }
        return kind == 4 ? target == ELEMENT : target == 0 || target == MAP;
    }

    private static int[] bytesOf(int id, int kind, int target, int slot) {
        int value = kind == 0 || kind == 3 ? 9 : 0;
        return target == 0
                ? new int[] {id, kind, target, slot, value, 1, HEAD}
                : new int[] {id, kind, target, slot, value, 2, target, HEAD};
    }

    /** "Kinds 0, 1, 2, 5, when its target is 0 or an applied MAP; kind 3, an applied LIST; kind 4, an INSERT." */
    private static void everyKindOnEveryTarget() {
        int[] targets = {0, MAP, LIST, ELEMENT, PUT, ERASE, CLEAR};
        for (int kind = 0; kind < 6; kind++) {
            for (int target : targets) {
                String what = "kind " + kind + " on " + target;
                int value = kind == 0 || kind == 3 ? 9 : 0;
                CHECKS.due(what + " as an edit", build().edit(0, kind, target, 0, value), fits(kind, target) ? 36 : -1);
                if (target != 0 || kind < 3 || kind == 5) {
                    receivedOnTarget(what, kind, target);
                }
            }
        }
    }

    private static void receivedOnTarget(String what, int kind, int target) {
        ReplicaDocument x = build();
        int sum = x.sum(0);
        boolean fits = fits(kind, target);
        CHECKS.due(what + " is applied", Checks.receive(x, 0, bytesOf(81, kind, target, 0)), 1);
        CHECKS.due(what + " changes the sum", x.sum(0) != sum, fits);
        boolean isShown = fits && kind < 4;
        CHECKS.due(what + " has a depth", x.depth(0, 81) >= 0, isShown);
        CHECKS.due(what + " hides the MAP", x.depth(0, MAP) == -1, fits && target == 0);
        CHECKS.due(what + " hides the PUT in the MAP", x.entry(0, MAP, 0, 0) != HEAD, fits && target == MAP);
        CHECKS.due(what + " makes the element go", x.depth(0, ELEMENT) == -1, fits && kind == 4);
        CHECKS.due(what + " adds an element", x.element(0, LIST, -1) > 1, fits && kind == 3);
        boolean targetIsMap = target == 0 || target == MAP;
        CHECKS.due(what + " makes no map of the target", x.entry(0, target, 0, -1) >= 0, targetIsMap);
        CHECKS.due(what + " makes no list of the target", x.element(0, target, -1) >= 0, target == LIST);
        CHECKS.due(what + " is a map itself", x.entry(0, 81, 0, -1) >= 0, kind == 1);
        CHECKS.due(what + " is a list itself", x.element(0, 81, -1) >= 0, kind == 2);
    }

    /** "And its slot is 0 or an INSERT that fits and has the same target." */
    private static void slotOfAnInsertFitsToo() {
        int[] slots = {MAP, LIST, ELEMENT, GONE, PUT, ERASE, CLEAR};
        for (int slot : slots) {
            boolean fits = slot == ELEMENT || slot == GONE;
            CHECKS.due("edit behind " + slot, build().edit(0, 3, LIST, slot, 0), fits ? 36 : -1);
            ReplicaDocument x = build();
            int[] bytes = slot < LIST ? new int[] {81, 3, LIST, slot, 0, 2, slot, LIST}
                    : slot == LIST ? new int[] {81, 3, LIST, slot, 0, 1, LIST}
                    : new int[] {81, 3, LIST, slot, 0, 2, LIST, slot};
            CHECKS.due("received behind " + slot, Checks.receive(x, 0, bytes), 1);
            CHECKS.due("elements then", x.element(0, LIST, -1), fits ? 2 : 1);
            CHECKS.due("has a depth", x.depth(0, 81), fits ? 2 : -1);
        }
        ReplicaDocument x = build();
        x.edit(0, 2, 0, 3, 0);
        CHECKS.due("edit behind an element of another list", x.edit(0, 3, 36, ELEMENT, 0), -1);
        CHECKS.due("received so", Checks.receive(x, 0, 81, 3, 36, ELEMENT, 0, 2, ELEMENT, 36), 1);
        CHECKS.due("elements of that list", x.element(0, 36, -1), 0);
        CHECKS.due("elements of the other", x.element(0, LIST, -1), 1);
        x.edit(0, 3, 36, 0, 0);
        CHECKS.due("an element of its own", x.element(0, 36, 0), 84);
        CHECKS.due("edit behind that, in the first list", x.edit(0, 3, LIST, 84, 0), -1);
        CHECKS.due("received so", Checks.receive(x, 0, 89, 3, LIST, 84, 0, 2, LIST, 84), 1);
        CHECKS.due("elements of the first list", x.element(0, LIST, -1), 1);
        CHECKS.due("elements of the other", x.element(0, 36, -1), 1);
    }

    /** "Looked for among what r has applied." */
    private static void whatWaitsIsNoTarget() {
        ReplicaDocument x = build();
        CHECKS.due("a MAP waits", Checks.receive(x, 0, 81, 1, 0, 0, 0, 1, 77), 0);
        CHECKS.due("a LIST waits", Checks.receive(x, 0, 85, 2, 0, 0, 0, 1, 77), 0);
        CHECKS.due("an INSERT waits", Checks.receive(x, 0, 89, 3, LIST, 0, 0, 2, LIST, 77), 0);
        CHECKS.due("PUT", x.edit(0, 0, 81, 0, 0), -1);
        CHECKS.due("MAP", x.edit(0, 1, 81, 0, 0), -1);
        CHECKS.due("LIST", x.edit(0, 2, 81, 0, 0), -1);
        CHECKS.due("CLEAR", x.edit(0, 5, 81, 0, 0), -1);
        CHECKS.due("INSERT", x.edit(0, 3, 85, 0, 0), -1);
        CHECKS.due("INSERT behind", x.edit(0, 3, LIST, 89, 0), -1);
        CHECKS.due("ERASE", x.edit(0, 4, 89, 0, 0), -1);
        CHECKS.due("they are applied", Checks.receive(x, 0, 77, 0, 0, 2, 0, 0), 4);
        CHECKS.due("INSERT behind then", x.edit(0, 3, LIST, 89, 0), 92);
    }

    /** "An INSERT that fits": one that does not carries no followers and cannot be erased. */
    private static void insertsThatDoNotFitCarryNone() {
        ReplicaDocument x = build();
        CHECKS.due("behind the MAP", Checks.receive(x, 0, 37, 3, LIST, MAP, 1, 2, MAP, LIST), 1);
        CHECKS.due("edit behind that", x.edit(0, 3, LIST, 37, 0), -1);
        CHECKS.due("ERASE of that", x.edit(0, 4, 37, 0, 0), -1);
        CHECKS.due("received behind that", Checks.receive(x, 0, 41, 3, LIST, 37, 1, 2, LIST, 37), 1);
        CHECKS.due("received behind both", Checks.receive(x, 0, 45, 3, LIST, 41, 1, 2, LIST, 41), 1);
        CHECKS.due("elements", x.element(0, LIST, -1), 1);
        CHECKS.due("element 0", x.element(0, LIST, 0), ELEMENT);
        CHECKS.due("the value is there all the same", x.value(0, 45), 1);
    }

    /** "An applied MAP", "an applied LIST": that these fit is not asked. */
    private static void mapsAndListsNeedNotFitThemselves() {
        ReplicaDocument x = build();
        CHECKS.due("a MAP in a PUT", Checks.receive(x, 0, 37, 1, PUT, 0, 0, 1, PUT), 1);
        CHECKS.due("a LIST in a PUT", Checks.receive(x, 0, 41, 2, PUT, 1, 0, 1, PUT), 1);
        int sum = x.sum(0);
        CHECKS.due("PUT into that MAP", x.edit(0, 0, 37, 3, 1), 44);
        CHECKS.due("INSERT into that LIST", x.edit(0, 3, 41, 0, 1), 48);
        CHECKS.due("entry", x.entry(0, 37, 3, 0), 44);
        CHECKS.due("element", x.element(0, 41, 0), 48);
        CHECKS.due("no depth", x.depth(0, 37) + x.depth(0, 41) + x.depth(0, 44) + x.depth(0, 48), -4);
        CHECKS.due("sum", x.sum(0), sum);
    }

    /** "It keeps its place": so it can be followed, and erased once more. */
    private static void goneElementsFitStill() {
        ReplicaDocument x = build();
        CHECKS.due("ERASE once more", x.edit(0, 4, GONE, 0, 0), 36);
        CHECKS.due("INSERT behind it", x.edit(0, 3, LIST, GONE, 1), 40);
        CHECKS.due("elements", x.element(0, LIST, -1), 2);
        CHECKS.due("its place", x.element(0, LIST, 0), 40);
        CHECKS.due("the next", x.element(0, LIST, 1), ELEMENT);
    }

    /** "THE DOCUMENT of a replica depends on the set of the operations that it has applied alone." */
    private static void setAloneCounts() {
        int[][] all = {
            {4, 2, 0, 0, 0, 0}, {8, 3, 4, 0, 1, 1, 4}, {9, 3, 4, 0, 2, 1, 4}, {12, 4, 8, 0, 0, 1, 8},
            {13, 3, 4, 8, 3, 2, 4, 8}, {5, 1, 0, 0, 0, 0}};
        int[] order = {0, 1, 2, 3, 4, 5};
        ReplicaDocument first = deliver(all, order);
        int sum = first.sum(2);
        int runs = 0;
        do {
            ReplicaDocument x = deliver(all, order);
            CHECKS.due("applied", x.log(2, -1), 6);
            CHECKS.due("sum", x.sum(2), sum);
            CHECKS.due("heads", x.heads(2), 4);
            CHECKS.due("elements", x.element(2, 4, -1), 2);
            CHECKS.due("element 0", x.element(2, 4, 0), 9);
            CHECKS.due("element 1", x.element(2, 4, 1), 13);
            CHECKS.due("entries", x.entry(2, 0, 0, -1), 2);
            CHECKS.due("entry 0", x.entry(2, 0, 0, 0), 4);
            CHECKS.due("depth", x.depth(2, 13), 2);
            runs++;
        } while (turn(order));
        CHECKS.due("orders", runs, 720);
    }

    private static ReplicaDocument deliver(int[][] all, int[] order) {
        ReplicaDocument x = new ReplicaDocument();
        for (int place : order) {
            Checks.receive(x, 2, all[place]);
        }
        return x;
    }

    /** The next order; false when this was the last. */
    private static boolean turn(int[] order) {
        int i = order.length - 2;
        while (i >= 0 && order[i] > order[i + 1]) {
            i--;
        }
        if (i < 0) {
            return false;
        }
        int j = order.length - 1;
        while (order[j] < order[i]) {
            j--;
        }
        swap(order, i, j);
        for (int a = i + 1, b = order.length - 1; a < b; a++, b--) {
            swap(order, a, b);
        }
        return true;
    }

    private static void swap(int[] order, int i, int j) {
        int kept = order[i];
        order[i] = order[j];
        order[j] = kept;
    }
}

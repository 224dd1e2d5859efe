import java.util.Arrays;

/**
 * The section "Terms": the bounds of its numbers, what is well formed, what is held and how it
 * settles. What it says of the document itself is looked at in FitTest and ContentsTest.
 */
public final class TermsTest {
    private static final Checks CHECKS = new Checks("TermsTest");

    public static void main(String[] args) {
        replicasAreZeroOneTwo();
        idsHaveACountOfOneToForty();
        idsBelongToTheirReplica();
        idsAreComparedAsNumbers();
        kindsAreZeroToFive();
        keysAreZeroToThree();
        valuesAreZeroToNinetyNine();
        beforeHasAtMostSixIds();
        namedAreTargetAndSlotUnlessZero();
        bytesStandInTheirOrder();
        atLeastSixBytes();
        exactlySixAndN();
        idsOfBeforeAreIds();
        idsOfBeforeAscend();
        targetsOfMapKindsAreZeroOrIds();
        insertsHaveAnIdForTargetAndZeroOrAnIdForSlot();
        erasesHaveAnIdForTargetAndZeroForSlot();
        atMostSixteenAreHeld();
        pastIsOfAnyDepthAndWithoutItself();
        leastIdOfThoseThatCanIsAppliedNext();
        wireHasAtMostSixteenBytes();
        CHECKS.end();
    }

    private static int receiveAnew(int... bytes) {
        return Checks.receive(new ReplicaDocument(), bytes[0] % 4 == 0 ? 1 : 0, bytes);
    }

    private static void broken(String what, int... bytes) {
        CHECKS.due(what + " " + Arrays.toString(bytes), receiveAnew(bytes), -2);
    }

    private static void applied(String what, int... bytes) {
        CHECKS.due(what + " " + Arrays.toString(bytes), receiveAnew(bytes), 1);
    }

    private static void waits(String what, int... bytes) {
        CHECKS.due(what + " " + Arrays.toString(bytes), receiveAnew(bytes), 0);
    }

    /** "REPLICAS are 0, 1, 2." */
    private static void replicasAreZeroOneTwo() {
        ReplicaDocument x = new ReplicaDocument();
        for (int r = 0; r < 3; r++) {
            CHECKS.due("edit of " + r, x.edit(r, 2, 0, 0, 0), 4 + r);
            CHECKS.due("held(" + r + ")", x.held(r), 1);
        }
        x.emit(0, 4);
        int[] noReplicas = {-1, 3, 4, 256, Integer.MIN_VALUE, Integer.MAX_VALUE};
        for (int r : noReplicas) {
            CHECKS.due("edit", x.edit(r, 0, 0, 0, 0), -1);
            CHECKS.due("emit", x.emit(r, 4), -1);
            CHECKS.due("receive", x.receive(r), -1);
            CHECKS.due("held", x.held(r), -1);
            CHECKS.due("log", x.log(r, 0), -1);
            CHECKS.due("log of -1", x.log(r, -1), -1);
            CHECKS.due("past", x.past(r, 4, 4), false);
            CHECKS.due("heads", x.heads(r), -1);
            CHECKS.due("entry", x.entry(r, 0, 0, 0), -1);
            CHECKS.due("entry of -1", x.entry(r, 0, 0, -1), -1);
            CHECKS.due("element", x.element(r, 4, 0), -1);
            CHECKS.due("element of -1", x.element(r, 4, -1), -1);
            CHECKS.due("value", x.value(r, 4), -1);
            CHECKS.due("depth", x.depth(r, 0), -1);
            CHECKS.due("sum", x.sum(r), 0);
            CHECKS.due("level", x.level(r, 0) || x.level(0, r) || x.level(r, r), false);
        }
    }

    /** "An ID is 4 * c + r with a count c of 1 .. 40 and a replica r (0 .. 2)." */
    private static void idsHaveACountOfOneToForty() {
        int[] ids = {4, 5, 6, 8, 126, 128, 158, 160, 161, 162};
        for (int id : ids) {
            applied("an id", id, 0, 0, 0, 0, 0);
        }
        int[] noIds = {0, 1, 2, 3, 7, 11, 127, 159, 163, 164, 165, 166, 167, 252, 255};
        for (int id : noIds) {
            broken("no id", id, 0, 0, 0, 0, 0);
        }
        ReplicaDocument x = new ReplicaDocument();
        CHECKS.due("count 39", Checks.receive(x, 2, 157, 0, 0, 0, 0, 0), 1);
        CHECKS.due("count 40 is the last to be issued", x.edit(2, 0, 0, 0, 0), 162);
        CHECKS.due("no count 41", x.edit(2, 0, 0, 0, 0), -7);
    }

    /** "It belongs to r." */
    private static void idsBelongToTheirReplica() {
        int[] counts = {1, 40};
        for (int count : counts) {
            for (int owner = 0; owner < 3; owner++) {
                for (int r = 0; r < 3; r++) {
                    CHECKS.due("id of " + owner + " to " + r,
                            Checks.receive(new ReplicaDocument(), r, 4 * count + owner, 0, 0, 0, 0, 0),
                            r == owner ? -4 : 1);
                }
            }
        }
    }

    /** "IDs are compared as numbers": not by count or replica alone, and not as signed bytes. */
    private static void idsAreComparedAsNumbers() {
        waits("6 is less than 8", 8, 0, 0, 0, 0, 1, 6);
        waits("124 is less than 128", 128, 0, 0, 0, 0, 1, 124);
        waits("128 is greater than 124", 160, 0, 0, 0, 0, 2, 124, 128);
        CHECKS.due("128 is not less than 124", receiveAnew(124, 0, 0, 0, 0, 1, 128), -6);
        CHECKS.due("5 is not less than 4", receiveAnew(4, 0, 0, 0, 0, 1, 5), -6);
        ReplicaDocument x = new ReplicaDocument();
        int[] ids = {160, 128, 124, 8, 6};
        for (int id : ids) {
            CHECKS.due("PUT", Checks.receive(x, 1, id, 0, 0, 2, 0, 0), 1);
        }
        for (int k = 0; k < ids.length; k++) {
            CHECKS.due("entry " + k, x.entry(1, 0, 2, k), ids[ids.length - 1 - k]);
        }
    }

    /** "A KIND 0 .. 5." */
    private static void kindsAreZeroToFive() {
        int[] targets = {0, 0, 0, 40, 40, 0};
        for (int kind = 0; kind < 6; kind++) {
            waits("kind", 80, kind, targets[kind], 0, 0, 1, 40);
        }
        broken("kind", 80, 6, 0, 0, 0, 0);
        broken("kind", 80, 6, 40, 0, 0, 1, 40);
        broken("kind", 80, 255, 0, 0, 0, 0);
        ReplicaDocument x = new ReplicaDocument();
        CHECKS.due("edit of kind -1", x.edit(0, -1, 0, 0, 0), -1);
        CHECKS.due("edit of kind 6", x.edit(0, 6, 0, 0, 0), -1);
    }

    /** "KEYS are 0 .. 3." */
    private static void keysAreZeroToThree() {
        int[] kinds = {0, 1, 2, 5};
        for (int kind : kinds) {
            for (int key = -2; key < 7; key++) {
                boolean isKey = key >= 0 && key <= 3;
                ReplicaDocument x = new ReplicaDocument();
                CHECKS.due("edit with key " + key, x.edit(0, kind, 0, key, 0), isKey ? 4 : -1);
                CHECKS.due("entry at " + key, x.entry(0, 0, key, -1), isKey ? (kind == 5 ? 0 : 1) : -1);
                if (isKey) {
                    applied("key", 80, kind, 0, key, 0, 0);
                } else if (key > 3) {
                    broken("no key", 80, kind, 0, key, 0, 0);
                }
            }
            broken("no key", 80, kind, 0, 255, 0, 0);
        }
    }

    /** "The value is 0 .. 99 for the kinds 0 and 3, otherwise 0." */
    private static void valuesAreZeroToNinetyNine() {
        int[] targets = {0, 0, 0, 40, 40, 0};
        int[] values = {0, 1, 98, 99, 100, 101, 128, 255};
        for (int kind = 0; kind < 6; kind++) {
            for (int value : values) {
                int most = kind == 0 || kind == 3 ? 99 : 0;
                CHECKS.due("kind " + kind + ", value " + value,
                        receiveAnew(80, kind, targets[kind], 0, value, 1, 40), value <= most ? 0 : -2);
            }
        }
        ReplicaDocument x = new ReplicaDocument();
        CHECKS.due("value -1", x.edit(0, 0, 0, 0, -1), -1);
        CHECKS.due("value 100", x.edit(0, 0, 0, 0, 100), -1);
        CHECKS.due("value 99", x.edit(0, 0, 0, 0, 99), 4);
        CHECKS.due("value 0", x.edit(0, 0, 0, 0, 0), 8);
        CHECKS.due("value(0, 4)", x.value(0, 4), 99);
        CHECKS.due("value(0, 8)", x.value(0, 8), 0);
    }

    /** "BEFORE, a set of at most 6 ids"; "n is 0 .. 6". */
    private static void beforeHasAtMostSixIds() {
        applied("none", 80, 0, 0, 0, 0, 0);
        waits("one", 80, 0, 0, 0, 0, 1, 4);
        waits("six", 80, 0, 0, 0, 0, 6, 4, 5, 6, 8, 9, 10);
        broken("seven", 80, 0, 0, 0, 0, 7, 4, 5, 6, 8, 9, 10, 12);
        broken("ten", 80, 0, 0, 0, 0, 10, 4, 5, 6, 8, 9, 10, 12, 13, 14, 16);
        broken("n of 255", 80, 0, 0, 0, 0, 255);
        broken("n of 250 and none", 80, 0, 0, 0, 0, 250);
    }

    /** "An operation NAMES its target, unless that is 0, and, being an INSERT, its slot, unless that is 0." */
    private static void namedAreTargetAndSlotUnlessZero() {
        applied("the root is not named", 80, 0, 0, 3, 0, 0);
        waits("the front is not named", 80, 3, 40, 0, 0, 1, 40);
        waits("a slot is named", 80, 3, 40, 44, 0, 2, 40, 44);
        CHECKS.due("a slot that is missing", receiveAnew(80, 3, 40, 44, 0, 1, 40), -5);
        CHECKS.due("a target that is missing", receiveAnew(80, 3, 40, 44, 0, 1, 44), -5);
        waits("a key is not named", 80, 0, 40, 3, 0, 1, 40);
    }

    /** "Its BYTES: id, kind, target, slot, value, n, and then the n ids of BEFORE in ascending order." */
    private static void bytesStandInTheirOrder() {
        ReplicaDocument x = new ReplicaDocument();
        x.edit(0, 2, 0, 1, 0);
        x.edit(0, 3, 4, 0, 98);
        CHECKS.due("a head with a greater id", Checks.receive(x, 0, 157, 0, 0, 3, 97, 0), 1);
        CHECKS.due("a head with a lesser id", Checks.receive(x, 0, 5, 0, 0, 3, 96, 0), 1);
        CHECKS.due("edit", x.edit(0, 3, 4, 8, 99), 160);
        int[] bytes = {160, 3, 4, 8, 99, 4, 4, 5, 8, 157};
        CHECKS.due("emit", x.emit(0, 160), bytes.length);
        for (int k = 0; k < bytes.length; k++) {
            CHECKS.due("byte " + k, x.wire(k), bytes[k]);
        }
    }

    /** "Bytes are WELL FORMED when there are at least 6." */
    private static void atLeastSixBytes() {
        int[] bytes = {80, 0, 0, 0, 0, 0};
        for (int length = 0; length <= 6; length++) {
            ReplicaDocument x = new ReplicaDocument();
            Checks.lay(x, bytes);
            x.cut(length);
            CHECKS.due(length + " bytes", x.receive(1), length == 6 ? 1 : -2);
        }
    }

    /** "There are exactly 6 + n." */
    private static void exactlySixAndN() {
        int[] before = {4, 5, 6, 8, 9, 10, 12, 13, 14, 16};
        for (int n = 0; n <= 6; n++) {
            for (int there = 0; there <= 10; there++) {
                int[] bytes = Arrays.copyOf(new int[] {80, 0, 0, 0, 0, n}, 6 + there);
                System.arraycopy(before, 0, bytes, 6, there);
                CHECKS.due("n is " + n + ", there are " + there, receiveAnew(bytes),
                        there != n ? -2 : n == 0 ? 1 : 0);
            }
        }
    }

    /** "The ids of BEFORE are ids": at the first and at the last place. */
    private static void idsOfBeforeAreIds() {
        int[] noIds = {0, 1, 2, 3, 7, 79, 163, 164, 255};
        for (int id : noIds) {
            broken("BEFORE", 162, 0, 0, 0, 0, 1, id);
            broken("BEFORE", 162, 0, 0, 0, 0, 6, 4, 5, 6, 8, 9, id);
        }
        waits("the first id and the last that is less", 162, 0, 0, 0, 0, 2, 4, 161);
    }

    /** "Each greater than the one ahead of it." */
    private static void idsOfBeforeAscend() {
        broken("the same twice", 80, 0, 0, 0, 0, 2, 4, 4);
        broken("descending", 80, 0, 0, 0, 0, 2, 5, 4);
        broken("the last two the same", 80, 0, 0, 0, 0, 6, 4, 5, 6, 8, 9, 9);
        broken("the last less than the first", 80, 0, 0, 0, 0, 3, 8, 12, 4);
        broken("greater than the first alone", 80, 0, 0, 0, 0, 3, 8, 16, 12);
        waits("one more each", 80, 0, 0, 0, 0, 3, 4, 5, 6);
    }

    /** "For the kinds 0, 1, 2, 5 the target is 0 or an id and the slot a key." */
    private static void targetsOfMapKindsAreZeroOrIds() {
        int[] kinds = {0, 1, 2, 5};
        for (int kind : kinds) {
            applied("the root", 162, kind, 0, 3, 0, 0);
            waits("an id", 162, kind, 4, 3, 0, 1, 4);
            waits("an id", 162, kind, 161, 3, 0, 1, 161);
            int[] noTargets = {1, 2, 3, 7, 163, 164, 255};
            for (int target : noTargets) {
                broken("target", 162, kind, target, 0, 0, 0);
            }
        }
    }

    /** "For kind 3 the target is an id and the slot 0 or an id." */
    private static void insertsHaveAnIdForTargetAndZeroOrAnIdForSlot() {
        broken("the root is no list", 162, 3, 0, 0, 0, 0);
        broken("the root is no list", 162, 3, 0, 4, 0, 1, 4);
        waits("at the front", 162, 3, 4, 0, 0, 1, 4);
        waits("behind the last id that is less", 162, 3, 4, 161, 0, 2, 4, 161);
        int[] noIds = {1, 2, 3, 7, 163, 164, 255};
        for (int id : noIds) {
            broken("target", 162, 3, id, 0, 0, 0);
            broken("slot", 162, 3, 4, id, 0, 1, 4);
        }
    }

    /** "For kind 4 the target is an id and the slot 0." */
    private static void erasesHaveAnIdForTargetAndZeroForSlot() {
        broken("the root is no element", 162, 4, 0, 0, 0, 0);
        waits("an id", 162, 4, 4, 0, 0, 1, 4);
        waits("an id", 162, 4, 161, 0, 0, 1, 161);
        int[] noIds = {1, 2, 3, 7, 163, 164, 255};
        for (int id : noIds) {
            broken("target", 162, 4, id, 0, 0, 0);
        }
        broken("slot 1", 162, 4, 4, 1, 0, 1, 4);
        broken("slot 3", 162, 4, 4, 3, 0, 1, 4);
        broken("an id for slot", 162, 4, 4, 8, 0, 2, 4, 8);
    }

    /** "A replica HOLDS operations, at most 16: those that it has APPLIED and those that WAIT." */
    private static void atMostSixteenAreHeld() {
        for (int waiting = 0; waiting <= 16; waiting++) {
            ReplicaDocument x = new ReplicaDocument();
            Checks.layWaiting(x, 1, 2, waiting);
            Checks.layHeads(x, 1, 0, 15 - waiting);
            CHECKS.due("held", x.held(1), Math.max(15, waiting));
            int due = waiting == 16 ? -7 : 1;
            CHECKS.due("the sixteenth, with " + waiting + " waiting", Checks.receive(x, 1, 72, 0, 0, 0, 0, 0), due);
            CHECKS.due("the seventeenth", Checks.receive(x, 1, 76, 0, 0, 0, 0, 0), -7);
            CHECKS.due("issued as the seventeenth", x.edit(1, 0, 0, 0, 0), -7);
            CHECKS.due("held", x.held(1), 16);
            CHECKS.due("applied", x.log(1, -1), 16 - waiting);
        }
    }

    /** "And so on at any depth (x is not in it)." */
    private static void pastIsOfAnyDepthAndWithoutItself() {
        ReplicaDocument x = new ReplicaDocument();
        Checks.receive(x, 2, 4, 0, 0, 0, 0, 0);
        for (int count = 2; count <= 16; count++) {
            Checks.receive(x, 2, 4 * count, 0, 0, 0, 0, 1, 4 * count - 4);
        }
        for (int a = 1; a <= 16; a++) {
            CHECKS.due("from " + a + " to the last", x.past(2, 4 * a, 64), a < 16);
            CHECKS.due("from the first to " + a, x.past(2, 4, 4 * a), a > 1);
            CHECKS.due("from the last to " + a, x.past(2, 64, 4 * a), false);
            CHECKS.due("itself", x.past(2, 4 * a, 4 * a), false);
        }
    }

    /** "The one with the least id among these is applied next": each time anew. */
    private static void leastIdOfThoseThatCanIsAppliedNext() {
        ReplicaDocument x = new ReplicaDocument();
        Checks.receive(x, 1, 128, 0, 0, 0, 0, 1, 4);
        Checks.receive(x, 1, 124, 0, 0, 0, 0, 1, 4);
        Checks.receive(x, 1, 10, 0, 0, 0, 0, 1, 8);
        Checks.receive(x, 1, 8, 0, 0, 0, 0, 1, 4);
        Checks.receive(x, 1, 12, 0, 0, 0, 0, 2, 4, 6);
        CHECKS.due("all but 12", Checks.receive(x, 1, 4, 0, 0, 0, 0, 0), 5);
        int[] log = {4, 8, 10, 124, 128};
        for (int k = 0; k < log.length; k++) {
            CHECKS.due("log " + k, x.log(1, k), log[k]);
        }
        CHECKS.due("12 waits for 6", x.held(1), 6);
        CHECKS.due("6 lets 12", Checks.receive(x, 1, 6, 0, 0, 0, 0, 0), 2);
        CHECKS.due("log 5", x.log(1, 5), 6);
        CHECKS.due("log 6", x.log(1, 6), 12);
    }

    /** "THE WIRE is a list of at most 16 bytes." */
    private static void wireHasAtMostSixteenBytes() {
        ReplicaDocument x = new ReplicaDocument();
        for (int k = 0; k < 16; k++) {
            CHECKS.due("byte " + k, x.alter(k, 255), true);
        }
        CHECKS.due("byte 16", x.alter(16, 255), false);
        CHECKS.due("wire(-1)", x.wire(-1), 16);
        CHECKS.due("wire(15)", x.wire(15), 255);
        CHECKS.due("wire(16)", x.wire(16), -1);
    }
}

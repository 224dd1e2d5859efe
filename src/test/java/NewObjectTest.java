/** Promise 1: a new object, and every call of the face on it. */
public final class NewObjectTest {
    private static final Checks CHECKS = new Checks("NewObjectTest");

    public static void main(String[] args) {
        for (int r = 0; r < 3; r++) {
            replicaHoldsNothing(r);
            documentIsAnEmptyRoot(r);
            everyEditOfTheRootIsTheFirst(r);
            editsOfWhatIsNotThereAreNone(r);
            for (int id = -4; id < 260; id++) {
                nothingIsThere(new ReplicaDocument(), r, id);
            }
        }
        replicasAreLevel();
        wireIsEmpty();
        emptyWireIsBroken();
        twoObjectsAreApart();
        CHECKS.end();
    }

    /** "Three replicas that hold nothing." */
    private static void replicaHoldsNothing(int r) {
        ReplicaDocument x = new ReplicaDocument();
        CHECKS.due("held", x.held(r), 0);
        CHECKS.due("log(r, -1)", x.log(r, -1), 0);
        CHECKS.due("log(r, 0)", x.log(r, 0), -1);
        CHECKS.due("log(r, 15)", x.log(r, 15), -1);
        CHECKS.due("heads", x.heads(r), 0);
        CHECKS.due("past of 0 and 0", x.past(r, 0, 0), false);
        CHECKS.due("past of 4 and 8", x.past(r, 4, 8), false);
    }

    /** "Every document is an empty root." */
    private static void documentIsAnEmptyRoot(int r) {
        ReplicaDocument x = new ReplicaDocument();
        CHECKS.due("sum", x.sum(r), 7);
        CHECKS.due("depth of the root", x.depth(r, 0), 0);
        for (int key = 0; key < 4; key++) {
            CHECKS.due("entries of the root", x.entry(r, 0, key, -1), 0);
            CHECKS.due("entry 0 of the root", x.entry(r, 0, key, 0), -1);
        }
        CHECKS.due("key -1", x.entry(r, 0, -1, -1), -1);
        CHECKS.due("key 4", x.entry(r, 0, 4, -1), -1);
        CHECKS.due("the root is no list", x.element(r, 0, -1), -1);
        CHECKS.due("the root has no value", x.value(r, 0), -1);
        CHECKS.due("the root is no operation", x.emit(r, 0), -1);
    }

    private static void everyEditOfTheRootIsTheFirst(int r) {
        int[] kinds = {0, 1, 2, 5};
        for (int kind : kinds) {
            ReplicaDocument x = new ReplicaDocument();
            CHECKS.due("edit of kind " + kind, x.edit(r, kind, 0, 3, 0), 4 + r);
            CHECKS.due("its bytes", x.emit(r, 4 + r), 6);
        }
    }

    private static void editsOfWhatIsNotThereAreNone(int r) {
        ReplicaDocument x = new ReplicaDocument();
        for (int kind = -1; kind < 7; kind++) {
            CHECKS.due("edit of kind " + kind + " on 4", x.edit(r, kind, 4, 0, 0), -1);
        }
        CHECKS.due("INSERT into the root", x.edit(r, 3, 0, 0, 0), -1);
        CHECKS.due("ERASE of the root", x.edit(r, 4, 0, 0, 0), -1);
        CHECKS.due("held", x.held(r), 0);
    }

    private static void nothingIsThere(ReplicaDocument x, int r, int id) {
        CHECKS.due("value", x.value(r, id), -1);
        CHECKS.due("depth of " + id, x.depth(r, id), id == 0 ? 0 : -1);
        CHECKS.due("entry of " + id, x.entry(r, id, 0, -1), id == 0 ? 0 : -1);
        CHECKS.due("element", x.element(r, id, -1), -1);
        CHECKS.due("emit", x.emit(r, id), -1);
        CHECKS.due("past", x.past(r, id, id), false);
    }

    private static void replicasAreLevel() {
        ReplicaDocument x = new ReplicaDocument();
        for (int a = -1; a < 4; a++) {
            for (int b = -1; b < 4; b++) {
                boolean both = a >= 0 && a < 3 && b >= 0 && b < 3;
                CHECKS.due("level(" + a + ", " + b + ")", x.level(a, b), both);
            }
        }
    }

    /** "THE WIRE is a list of at most 16 bytes, at first empty." */
    private static void wireIsEmpty() {
        ReplicaDocument x = new ReplicaDocument();
        CHECKS.due("wire(-1)", x.wire(-1), 0);
        CHECKS.due("wire(0)", x.wire(0), -1);
        CHECKS.due("wire(15)", x.wire(15), -1);
        CHECKS.due("cut(1)", x.cut(1), false);
        CHECKS.due("cut(0)", x.cut(0), true);
        CHECKS.due("alter(1, 0)", x.alter(1, 0), false);
        CHECKS.due("alter(-1, 0)", x.alter(-1, 0), false);
        CHECKS.due("alter(0, 0)", x.alter(0, 0), true);
        CHECKS.due("wire(-1) then", x.wire(-1), 1);
    }

    private static void emptyWireIsBroken() {
        ReplicaDocument x = new ReplicaDocument();
        for (int r = 0; r < 3; r++) {
            CHECKS.due("receive(" + r + ")", x.receive(r), -2);
            CHECKS.due("held(" + r + ")", x.held(r), 0);
        }
        CHECKS.due("receive(-1)", x.receive(-1), -1);
        CHECKS.due("receive(3)", x.receive(3), -1);
    }

    private static void twoObjectsAreApart() {
        ReplicaDocument one = new ReplicaDocument();
        ReplicaDocument other = new ReplicaDocument();
        one.edit(0, 0, 0, 0, 1);
        one.emit(0, 4);
        CHECKS.due("held of another object", other.held(0), 0);
        CHECKS.due("wire of another object", other.wire(-1), 0);
        CHECKS.due("sum of another object", other.sum(0), 7);
    }
}

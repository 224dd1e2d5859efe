/** Promises 3 to 6: emit, wire, alter, cut. */
public final class WireTest {
    private static final Checks CHECKS = new Checks("WireTest");

    public static void main(String[] args) {
        emitLaysTheBytes();
        emitReachesWhatWaits();
        emitRefuses();
        wireAnswersBytes();
        alterChangesAndAdds();
        alterRefuses();
        cutKeepsTheFirst();
        cutRefuses();
        CHECKS.end();
    }

    private static void wireIs(ReplicaDocument x, int... bytes) {
        CHECKS.due("wire(-1)", x.wire(-1), bytes.length);
        for (int k = 0; k < bytes.length; k++) {
            CHECKS.due("wire(" + k + ")", x.wire(k), bytes[k]);
        }
        CHECKS.due("wire behind the last", x.wire(bytes.length), -1);
    }

    private static void emitLaysTheBytes() {
        ReplicaDocument x = new ReplicaDocument();
        x.edit(1, 2, 0, 3, 0);
        x.edit(1, 3, 5, 0, 98);
        x.edit(1, 3, 5, 9, 97);
        CHECKS.due("emit(1, 13)", x.emit(1, 13), 8);
        wireIs(x, 13, 3, 5, 9, 97, 2, 5, 9);
        CHECKS.due("emit(1, 5)", x.emit(1, 5), 6);
        wireIs(x, 5, 2, 0, 3, 0, 0);
        CHECKS.due("emit changes no replica", x.held(1), 3);
    }

    private static void emitReachesWhatWaits() {
        ReplicaDocument x = new ReplicaDocument();
        CHECKS.due("waits", Checks.receive(x, 2, 161, 5, 0, 1, 0, 6, 4, 5, 8, 9, 12, 160), 0);
        x.cut(0);
        CHECKS.due("emit", x.emit(2, 161), 12);
        wireIs(x, 161, 5, 0, 1, 0, 6, 4, 5, 8, 9, 12, 160);
    }

    private static void emitRefuses() {
        ReplicaDocument x = new ReplicaDocument();
        x.edit(0, 0, 0, 0, 1);
        Checks.lay(x, 9, 8, 7);
        int[] noIds = {-4, -1, 0, 1, 5, 8, 256, 260, Integer.MIN_VALUE, Integer.MAX_VALUE};
        for (int id : noIds) {
            CHECKS.due("emit(0, " + id + ")", x.emit(0, id), -1);
        }
        CHECKS.due("emit of a replica without it", x.emit(1, 4), -1);
        CHECKS.due("emit(-1, 4)", x.emit(-1, 4), -1);
        CHECKS.due("emit(3, 4)", x.emit(3, 4), -1);
        wireIs(x, 9, 8, 7);
    }

    private static void wireAnswersBytes() {
        ReplicaDocument x = new ReplicaDocument();
        Checks.lay(x, 0, 255, 1);
        wireIs(x, 0, 255, 1);
        int[] noPlaces = {-2, 3, 15, 16, 17, Integer.MIN_VALUE, Integer.MAX_VALUE};
        for (int k : noPlaces) {
            CHECKS.due("wire(" + k + ")", x.wire(k), -1);
        }
    }

    private static void alterChangesAndAdds() {
        ReplicaDocument x = new ReplicaDocument();
        for (int k = 0; k < 16; k++) {
            CHECKS.due("add byte " + k, x.alter(k, 240 + k), true);
            CHECKS.due("wire(-1)", x.wire(-1), k + 1);
        }
        CHECKS.due("a seventeenth", x.alter(16, 0), false);
        CHECKS.due("change the first", x.alter(0, 0), true);
        CHECKS.due("change the last", x.alter(15, 7), true);
        CHECKS.due("wire(-1)", x.wire(-1), 16);
        CHECKS.due("wire(0)", x.wire(0), 0);
        CHECKS.due("wire(1)", x.wire(1), 241);
        CHECKS.due("wire(15)", x.wire(15), 7);
    }

    private static void alterRefuses() {
        ReplicaDocument x = new ReplicaDocument();
        Checks.lay(x, 1, 2);
        int[] noPlaces = {-2, -1, 3, 16, 17, Integer.MIN_VALUE, Integer.MAX_VALUE};
        for (int k : noPlaces) {
            CHECKS.due("alter(" + k + ", 0)", x.alter(k, 0), false);
        }
        int[] noBytes = {-1, 256, Integer.MIN_VALUE, Integer.MAX_VALUE};
        for (int b : noBytes) {
            CHECKS.due("alter(0, " + b + ")", x.alter(0, b), false);
            CHECKS.due("alter(2, " + b + ")", x.alter(2, b), false);
        }
        wireIs(x, 1, 2);
    }

    private static void cutKeepsTheFirst() {
        ReplicaDocument x = new ReplicaDocument();
        CHECKS.due("cut of nothing", x.cut(0), true);
        Checks.lay(x, 1, 2, 3, 4);
        CHECKS.due("cut(4)", x.cut(4), true);
        wireIs(x, 1, 2, 3, 4);
        CHECKS.due("cut(2)", x.cut(2), true);
        wireIs(x, 1, 2);
        CHECKS.due("add behind the cut", x.alter(2, 9), true);
        wireIs(x, 1, 2, 9);
        CHECKS.due("cut(0)", x.cut(0), true);
        wireIs(x);
    }

    private static void cutRefuses() {
        ReplicaDocument x = new ReplicaDocument();
        Checks.lay(x, 1, 2, 3, 4);
        x.cut(3);
        int[] noNumbers = {-1, 4, 16, 17, Integer.MIN_VALUE, Integer.MAX_VALUE};
        for (int n : noNumbers) {
            CHECKS.due("cut(" + n + ")", x.cut(n), false);
        }
        wireIs(x, 1, 2, 3);
    }
}

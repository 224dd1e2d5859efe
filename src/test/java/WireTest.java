/** Promises 3 to 6: emit, wire, alter, cut. */
public final class WireTest {
    private static final Checks CHECKS = new Checks("WireTest");

    public static void main(String[] args) {
        emitLaysTheBytes();
        emitReachesWhatWaits();
        emitLaysACopy();
        emitRefuses();
        wireAnswersBytes();
        alterChangesAndAdds();
        bytesAreZeroTo255();
        alterOfAnEmptyWire();
        alterRefuses();
        cutKeepsTheFirst();
        cutOfSixteen();
        cutRefuses();
        CHECKS.end();
    }

    private static void wireIs(ReplicaDocument x, int... bytes) {
        CHECKS.due("wire(-1)", x.wire(-1), bytes.length);
        for (int k = 0; k < bytes.length; k++) {
            CHECKS.due("wire(" + k + ")", x.wire(k), bytes[k]);
        }
        CHECKS.due("wire behind the last", x.wire(bytes.length), -1);
    }

    private static void emitLaysTheBytes() {
        ReplicaDocument x = new ReplicaDocument();
        x.edit(1, 2, 0, 3, 0);
        x.edit(1, 3, 5, 0, 98);
        x.edit(1, 3, 5, 9, 97);
        CHECKS.due("emit(1, 13)", x.emit(1, 13), 8);
        wireIs(x, 13, 3, 5, 9, 97, 2, 5, 9);
        CHECKS.due("emit(1, 5)", x.emit(1, 5), 6);
        wireIs(x, 5, 2, 0, 3, 0, 0);
        CHECKS.due("emit changes no replica", x.held(1), 3);
    }

    private static void emitReachesWhatWaits() {
        ReplicaDocument x = new ReplicaDocument();
        CHECKS.due("waits", Checks.receive(x, 2, 161, 5, 0, 1, 0, 6, 4, 5, 8, 9, 12, 160), 0);
        x.cut(0);
        CHECKS.due("emit", x.emit(2, 161), 12);
        wireIs(x, 161, 5, 0, 1, 0, 6, 4, 5, 8, 9, 12, 160);
    }

    /** What is changed on the wire is not changed where it came from. */
    private static void emitLaysACopy() {
        ReplicaDocument x = new ReplicaDocument();
        x.edit(0, 0, 0, 0, 1);
        x.edit(0, 0, 0, 0, 2);
        x.emit(0, 8);
        for (int k = 0; k < 7; k++) {
            CHECKS.due("alter", x.alter(k, 200), true);
        }
        CHECKS.due("value(0, 8)", x.value(0, 8), 2);
        CHECKS.due("emit(0, 8)", x.emit(0, 8), 7);
        wireIs(x, 8, 0, 0, 0, 2, 1, 4);
        Checks.lay(x, new int[16]);
        CHECKS.due("emit onto a full wire", x.emit(0, 4), 6);
        wireIs(x, 4, 0, 0, 0, 1, 0);
    }

    private static void emitRefuses() {
        ReplicaDocument x = new ReplicaDocument();
        x.edit(0, 0, 0, 0, 1);
        Checks.lay(x, 9, 8, 7);
        int[] noIds = {-4, -1, 0, 1, 5, 8, 256, 260, Integer.MIN_VALUE, Integer.MAX_VALUE};
        for (int id : noIds) {
            CHECKS.due("emit(0, " + id + ")", x.emit(0, id), -1);
        }
        CHECKS.due("emit of a replica without it", x.emit(1, 4), -1);
        CHECKS.due("emit(-1, 4)", x.emit(-1, 4), -1);
        CHECKS.due("emit(3, 4)", x.emit(3, 4), -1);
        CHECKS.due("emit of the least number", x.emit(Integer.MIN_VALUE, 4), -1);
        CHECKS.due("emit of the greatest number", x.emit(Integer.MAX_VALUE, 4), -1);
        wireIs(x, 9, 8, 7);
    }

    private static void wireAnswersBytes() {
        ReplicaDocument x = new ReplicaDocument();
        Checks.lay(x, 0, 255, 1);
        wireIs(x, 0, 255, 1);
        int[] noPlaces = {-2, 3, 15, 16, 17, Integer.MIN_VALUE, Integer.MAX_VALUE};
        for (int k : noPlaces) {
            CHECKS.due("wire(" + k + ")", x.wire(k), -1);
        }
    }

    private static void alterChangesAndAdds() {
        ReplicaDocument x = new ReplicaDocument();
        for (int k = 0; k < 16; k++) {
            CHECKS.due("add byte " + k, x.alter(k, 240 + k), true);
            CHECKS.due("wire(-1)", x.wire(-1), k + 1);
        }
        CHECKS.due("a seventeenth", x.alter(16, 0), false);
        CHECKS.due("change the first", x.alter(0, 0), true);
        CHECKS.due("change the last", x.alter(15, 7), true);
        CHECKS.due("wire(-1)", x.wire(-1), 16);
        CHECKS.due("wire(0)", x.wire(0), 0);
        CHECKS.due("wire(1)", x.wire(1), 241);
        CHECKS.due("wire(15)", x.wire(15), 7);
    }

    /** "False when b is not 0 .. 255." */
    private static void bytesAreZeroTo255() {
        ReplicaDocument x = new ReplicaDocument();
        Checks.lay(x, 7);
        int[] bytes = {0, 1, 127, 128, 254, 255};
        for (int b : bytes) {
            CHECKS.due("alter(0, " + b + ")", x.alter(0, b), true);
            CHECKS.due("wire(0)", x.wire(0), b);
        }
        int[] noBytes = {-1, -255, -256, 256, 257, 511, Integer.MIN_VALUE, Integer.MAX_VALUE};
        for (int b : noBytes) {
            CHECKS.due("alter(0, " + b + ")", x.alter(0, b), false);
            CHECKS.due("wire(0)", x.wire(0), 255);
        }
        CHECKS.due("add 0", x.alter(1, 0), true);
        CHECKS.due("add 255", x.alter(2, 255), true);
        CHECKS.due("add 256", x.alter(3, 256), false);
        CHECKS.due("add -1", x.alter(3, -1), false);
        wireIs(x, 255, 0, 255);
    }

    private static void alterOfAnEmptyWire() {
        ReplicaDocument x = new ReplicaDocument();
        CHECKS.due("alter(1, 5)", x.alter(1, 5), false);
        CHECKS.due("alter(-1, 5)", x.alter(-1, 5), false);
        wireIs(x);
        CHECKS.due("alter(0, 5)", x.alter(0, 5), true);
        wireIs(x, 5);
    }

    private static void alterRefuses() {
        ReplicaDocument x = new ReplicaDocument();
        Checks.lay(x, 1, 2);
        int[] noPlaces = {-2, -1, 3, 16, 17, Integer.MIN_VALUE, Integer.MAX_VALUE};
        for (int k : noPlaces) {
            CHECKS.due("alter(" + k + ", 0)", x.alter(k, 0), false);
        }
        int[] noBytes = {-1, 256, Integer.MIN_VALUE, Integer.MAX_VALUE};
        for (int b : noBytes) {
            CHECKS.due("alter(0, " + b + ")", x.alter(0, b), false);
            CHECKS.due("alter(2, " + b + ")", x.alter(2, b), false);
        }
        wireIs(x, 1, 2);
    }

    private static void cutKeepsTheFirst() {
        ReplicaDocument x = new ReplicaDocument();
        CHECKS.due("cut of nothing", x.cut(0), true);
        Checks.lay(x, 1, 2, 3, 4);
        CHECKS.due("cut(4)", x.cut(4), true);
        wireIs(x, 1, 2, 3, 4);
        CHECKS.due("cut(2)", x.cut(2), true);
        wireIs(x, 1, 2);
        CHECKS.due("add behind the cut", x.alter(2, 9), true);
        wireIs(x, 1, 2, 9);
        CHECKS.due("cut(0)", x.cut(0), true);
        wireIs(x);
    }

    private static void cutOfSixteen() {
        ReplicaDocument x = new ReplicaDocument();
        Checks.lay(x, 1, 2, 3, 4, 5, 6, 7, 8, 9, 10, 11, 12, 13, 14, 15, 16);
        CHECKS.due("cut(17)", x.cut(17), false);
        CHECKS.due("cut(16)", x.cut(16), true);
        CHECKS.due("alter(16, 1)", x.alter(16, 1), false);
        CHECKS.due("cut(15)", x.cut(15), true);
        CHECKS.due("wire(15)", x.wire(15), -1);
        CHECKS.due("a byte behind it", x.alter(15, 99), true);
        wireIs(x, 1, 2, 3, 4, 5, 6, 7, 8, 9, 10, 11, 12, 13, 14, 15, 99);
        CHECKS.due("cut(0)", x.cut(0), true);
        CHECKS.due("cut(1)", x.cut(1), false);
        CHECKS.due("what is cut does not come back", x.alter(1, 1), false);
        wireIs(x);
    }

    private static void cutRefuses() {
        ReplicaDocument x = new ReplicaDocument();
        Checks.lay(x, 1, 2, 3, 4);
        x.cut(3);
        int[] noNumbers = {-1, 4, 16, 17, Integer.MIN_VALUE, Integer.MAX_VALUE};
        for (int n : noNumbers) {
            CHECKS.due("cut(" + n + ")", x.cut(n), false);
        }
        wireIs(x, 1, 2, 3);
    }
}

/** Promises 8 to 11, 14 and 17: held, log, past, heads, value, level. */
public final class LogTest {
    private static final Checks CHECKS = new Checks("LogTest");
    private static final int[] NO_REPLICAS = {-1, 3, 4, Integer.MIN_VALUE, Integer.MAX_VALUE};

    public static void main(String[] args) {
        heldCountsWhatWaitsToo();
        logIsTheOrderOfApplying();
        sixteenAreLogged();
        pastGoesThroughEveryDepth();
        pastAsksForBothApplied();
        headsAreInNobodysBefore();
        headsAreNoneToSixteen();
        valueIsOfWhatIsApplied();
        levelLooksAtSetsAndBytes();
        levelLooksAtEveryByte();
        levelLooksPastWhatWaits();
        noReplica();
        CHECKS.end();
    }

    private static void heldCountsWhatWaitsToo() {
        ReplicaDocument x = new ReplicaDocument();
        x.edit(0, 0, 0, 0, 1);
        CHECKS.due("held(0)", x.held(0), 1);
        Checks.receive(x, 0, 9, 0, 0, 0, 0, 1, 5);
        CHECKS.due("held(0) with one that waits", x.held(0), 2);
        CHECKS.due("log(0, -1)", x.log(0, -1), 1);
        CHECKS.due("held(1)", x.held(1), 0);
    }

    private static void logIsTheOrderOfApplying() {
        ReplicaDocument x = new ReplicaDocument();
        Checks.receive(x, 0, 45, 0, 0, 0, 0, 0);
        Checks.receive(x, 0, 81, 0, 0, 0, 0, 1, 6);
        Checks.receive(x, 0, 5, 0, 0, 0, 0, 0);
        Checks.receive(x, 0, 22, 0, 0, 0, 0, 0);
        CHECKS.due("log(0, -1)", x.log(0, -1), 3);
        CHECKS.due("log(0, 0)", x.log(0, 0), 45);
        CHECKS.due("log(0, 1)", x.log(0, 1), 5);
        CHECKS.due("log(0, 2)", x.log(0, 2), 22);
        int[] noPlaces = {-2, 3, 15, 16, Integer.MIN_VALUE, Integer.MAX_VALUE};
        for (int k : noPlaces) {
            CHECKS.due("log(0, " + k + ")", x.log(0, k), -1);
        }
    }

    private static void sixteenAreLogged() {
        ReplicaDocument x = new ReplicaDocument();
        for (int count = 1; count <= 16; count++) {
            CHECKS.due("held ahead of edit " + count, x.held(1), count - 1);
            CHECKS.due("log(1, -1)", x.log(1, -1), count - 1);
            CHECKS.due("the next place", x.log(1, count - 1), -1);
            x.edit(1, 0, 0, 0, 0);
            CHECKS.due("the place then", x.log(1, count - 1), 4 * count + 1);
        }
        x.edit(1, 0, 0, 0, 0);
        CHECKS.due("held(1)", x.held(1), 16);
        CHECKS.due("log(1, -1) of sixteen", x.log(1, -1), 16);
        CHECKS.due("log(1, 0)", x.log(1, 0), 5);
        CHECKS.due("log(1, 15)", x.log(1, 15), 65);
        CHECKS.due("log(1, 16)", x.log(1, 16), -1);
        CHECKS.due("log(1, -2)", x.log(1, -2), -1);
        CHECKS.due("log(0, 0)", x.log(0, 0), -1);
        CHECKS.due("log(2, -1)", x.log(2, -1), 0);
    }

    private static void pastGoesThroughEveryDepth() {
        ReplicaDocument x = new ReplicaDocument();
        for (int k = 1; k <= 16; k++) {
            x.edit(0, 0, 0, 0, k);
        }
        for (int a = 1; a <= 16; a++) {
            CHECKS.due("in the past of the last", x.past(0, 4 * a, 64), a < 16);
            CHECKS.due("in the past of the first", x.past(0, 4 * a, 4), false);
            CHECKS.due("in the past of the eighth", x.past(0, 4 * a, 32), a < 8);
            CHECKS.due("in its own past", x.past(0, 4 * a, 4 * a), false);
        }
    }

    private static void pastAsksForBothApplied() {
        ReplicaDocument x = new ReplicaDocument();
        x.edit(0, 0, 0, 0, 1);
        x.edit(0, 0, 0, 0, 1);
        x.edit(1, 0, 0, 0, 1);
        Checks.receive(x, 0, 81, 0, 0, 0, 0, 2, 4, 77);
        CHECKS.due("past(0, 4, 8)", x.past(0, 4, 8), true);
        CHECKS.due("of one that waits", x.past(0, 4, 81), false);
        CHECKS.due("one that waits", x.past(0, 81, 8), false);
        CHECKS.due("one that is waited for", x.past(0, 77, 81), false);
        CHECKS.due("of one that is unknown", x.past(0, 4, 12), false);
        CHECKS.due("one that is unknown", x.past(0, 12, 8), false);
        CHECKS.due("of the root", x.past(0, 4, 0), false);
        CHECKS.due("itself", x.past(0, 4, 4), false);
        CHECKS.due("the root", x.past(0, 0, 8), false);
        CHECKS.due("another replica", x.past(1, 4, 8), false);
        Checks.send(x, 1, 5, 0);
        CHECKS.due("nobody knew of the other", x.past(0, 5, 8), false);
        CHECKS.due("the other way", x.past(0, 8, 5), false);
        CHECKS.due("numbers that are no ids", x.past(0, -1, Integer.MAX_VALUE), false);
    }

    private static void headsAreInNobodysBefore() {
        ReplicaDocument x = new ReplicaDocument();
        x.edit(0, 0, 0, 0, 1);
        CHECKS.due("the first", x.heads(0), 1);
        x.edit(0, 0, 0, 0, 1);
        CHECKS.due("one after the other", x.heads(0), 1);
        Checks.receive(x, 0, 5, 0, 0, 0, 0, 0);
        CHECKS.due("apart", x.heads(0), 2);
        Checks.receive(x, 0, 81, 0, 0, 0, 0, 2, 5, 77);
        CHECKS.due("what waits takes no head away", x.heads(0), 2);
        Checks.receive(x, 0, 10, 0, 0, 0, 0, 2, 5, 8);
        CHECKS.due("both in one BEFORE", x.heads(0), 1);
        Checks.receive(x, 0, 14, 0, 0, 0, 0, 1, 4);
        CHECKS.due("behind an old one", x.heads(0), 2);
        CHECKS.due("another replica", x.heads(1), 0);
    }

    private static void headsAreNoneToSixteen() {
        ReplicaDocument x = new ReplicaDocument();
        Checks.layWaiting(x, 2, 0, 2);
        CHECKS.due("none of what waits", x.heads(2), 0);
        CHECKS.due("all are applied", Checks.layMissing(x, 2, 0), 3);
        CHECKS.due("two behind one", x.heads(2), 2);
        x = new ReplicaDocument();
        Checks.layHeads(x, 2, 0, 16);
        CHECKS.due("sixteen", x.heads(2), 16);
    }

    private static void valueIsOfWhatIsApplied() {
        ReplicaDocument x = new ReplicaDocument();
        x.edit(0, 0, 0, 0, 99);
        x.edit(0, 2, 0, 1, 0);
        x.edit(0, 3, 8, 0, 45);
        x.edit(0, 4, 12, 0, 0);
        x.edit(0, 5, 0, 0, 0);
        Checks.receive(x, 0, 81, 0, 0, 0, 7, 1, 77);
        CHECKS.due("of a PUT that is cleared", x.value(0, 4), 99);
        CHECKS.due("of a LIST", x.value(0, 8), 0);
        CHECKS.due("of an element that is gone", x.value(0, 12), 45);
        CHECKS.due("of an ERASE", x.value(0, 16), 0);
        CHECKS.due("of a CLEAR", x.value(0, 20), 0);
        Checks.receive(x, 0, 85, 0, 4, 0, 8, 1, 4);
        CHECKS.due("of a PUT that does not fit", x.value(0, 85), 8);
        int[] noIds = {-1, 0, 1, 5, 24, 81, 256, 260, Integer.MIN_VALUE, Integer.MAX_VALUE};
        for (int id : noIds) {
            CHECKS.due("value(0, " + id + ")", x.value(0, id), -1);
        }
        CHECKS.due("another replica", x.value(1, 4), -1);
    }

    private static void levelLooksAtSetsAndBytes() {
        ReplicaDocument x = new ReplicaDocument();
        x.edit(0, 0, 0, 0, 1);
        CHECKS.due("one more", x.level(0, 1), false);
        CHECKS.due("one less", x.level(1, 0), false);
        x.edit(1, 0, 0, 0, 1);
        CHECKS.due("as many, others", x.level(0, 1), false);
        Checks.send(x, 0, 4, 1);
        Checks.send(x, 1, 5, 0);
        CHECKS.due("logs differ", x.log(0, 0) != x.log(1, 0), true);
        CHECKS.due("the same set in another order", x.level(0, 1), true);
        CHECKS.due("with itself", x.level(0, 0), true);
        Checks.receive(x, 0, 10, 0, 0, 1, 8, 1, 4);
        Checks.receive(x, 1, 10, 0, 0, 1, 8, 1, 5);
        CHECKS.due("another BEFORE", x.level(0, 1), false);
        CHECKS.due("another BEFORE, the other way", x.level(1, 0), false);
    }

    /** "Each with the same bytes": one byte that differs is enough. */
    private static void levelLooksAtEveryByte() {
        int[] bytes = {22, 3, 6, 0, 7, 2, 6, 10};
        int[][] others = {
            {18, 3, 6, 0, 7, 2, 6, 10}, {22, 0, 6, 0, 7, 2, 6, 10}, {22, 3, 10, 0, 7, 2, 6, 10},
            {22, 3, 6, 10, 7, 2, 6, 10}, {22, 3, 6, 0, 8, 2, 6, 10}, {22, 3, 6, 0, 7, 1, 6},
            {22, 3, 6, 0, 7, 3, 6, 10, 14}, {22, 3, 6, 0, 7, 2, 6, 14}};
        for (int[] other : others) {
            CHECKS.due("level with other bytes", isLevelWith(bytes, other), false);
            CHECKS.due("the other way", isLevelWith(other, bytes), false);
            CHECKS.due("with the same bytes", isLevelWith(other, other), true);
        }
    }

    private static boolean isLevelWith(int[] bytes, int[] other) {
        ReplicaDocument x = new ReplicaDocument();
        for (int r = 0; r < 2; r++) {
            Checks.receive(x, r, 6, 2, 0, 0, 0, 0);
            Checks.receive(x, r, 10, 3, 6, 0, 0, 1, 6);
            Checks.receive(x, r, 14, 3, 6, 10, 0, 2, 6, 10);
            CHECKS.due("applied", Checks.receive(x, r, r == 0 ? bytes : other), 1);
        }
        return x.level(0, 1);
    }

    private static void levelLooksPastWhatWaits() {
        ReplicaDocument x = new ReplicaDocument();
        Checks.receive(x, 0, 9, 0, 0, 0, 0, 1, 5);
        CHECKS.due("what waits does not count", x.level(0, 1), true);
        CHECKS.due("nor the other way", x.level(1, 0), true);
        Checks.receive(x, 0, 6, 0, 0, 0, 0, 0);
        Checks.receive(x, 1, 6, 0, 0, 0, 0, 0);
        CHECKS.due("nor behind what is applied", x.level(0, 1), true);
        Checks.receive(x, 1, 8, 0, 0, 0, 0, 0);
        CHECKS.due("as many held, fewer applied", x.level(0, 1), false);
        CHECKS.due("as many held, more applied", x.level(1, 0), false);
    }

    private static void noReplica() {
        ReplicaDocument x = new ReplicaDocument();
        x.edit(0, 0, 0, 0, 1);
        x.edit(0, 0, 0, 0, 1);
        for (int r : NO_REPLICAS) {
            CHECKS.due("held(" + r + ")", x.held(r), -1);
            CHECKS.due("log(" + r + ", -1)", x.log(r, -1), -1);
            CHECKS.due("log(" + r + ", 0)", x.log(r, 0), -1);
            CHECKS.due("past(" + r + ", 4, 8)", x.past(r, 4, 8), false);
            CHECKS.due("heads(" + r + ")", x.heads(r), -1);
            CHECKS.due("value(" + r + ", 4)", x.value(r, 4), -1);
            CHECKS.due("level(" + r + ", 0)", x.level(r, 0), false);
            CHECKS.due("level(0, " + r + ")", x.level(0, r), false);
            CHECKS.due("level(" + r + ", " + r + ")", x.level(r, r), false);
        }
    }
}

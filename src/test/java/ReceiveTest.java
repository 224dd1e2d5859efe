import java.util.Arrays;

/** Promise 7: receive. */
public final class ReceiveTest {
    private static final Checks CHECKS = new Checks("ReceiveTest");

    public static void main(String[] args) {
        theOperationTravels();
        settlingTakesTheLeastIdFirst();
        sixteenSettleAtOnce();
        theWireStays();
        againOnceItIsApplied();
        noReplicaIsNone();
        lengthsAreLookedAt();
        everyByteIsLookedAt();
        beforeIsLookedAt();
        againAndClash();
        forged();
        gap();
        order();
        full();
        reasonsComeInTheirOrder();
        refusalsChangeNothing();
        CHECKS.end();
    }

    private static void theOperationTravels() {
        ReplicaDocument x = new ReplicaDocument();
        x.edit(0, 0, 0, 2, 33);
        x.emit(0, 4);
        CHECKS.due("receive(1)", x.receive(1), 1);
        CHECKS.due("receive(2): the wire stays", x.receive(2), 1);
        CHECKS.due("wire(-1)", x.wire(-1), 6);
        CHECKS.due("value(1, 4)", x.value(1, 4), 33);
        CHECKS.due("entry(2, 0, 2, 0)", x.entry(2, 0, 2, 0), 4);
        CHECKS.due("level(1, 2)", x.level(1, 2), true);
    }

    private static void settlingTakesTheLeastIdFirst() {
        ReplicaDocument x = new ReplicaDocument();
        CHECKS.due("21 waits", Checks.receive(x, 2, 21, 0, 0, 0, 1, 1, 4), 0);
        CHECKS.due("17 waits", Checks.receive(x, 2, 17, 0, 0, 0, 1, 1, 4), 0);
        CHECKS.due("9 waits for 8", Checks.receive(x, 2, 9, 0, 0, 0, 1, 1, 8), 0);
        CHECKS.due("20 waits for 12", Checks.receive(x, 2, 20, 0, 0, 0, 1, 1, 12), 0);
        CHECKS.due("8 waits for 4 and 5", Checks.receive(x, 2, 8, 0, 0, 0, 1, 2, 4, 5), 0);
        CHECKS.due("5 is applied", Checks.receive(x, 2, 5, 0, 0, 0, 1, 0), 1);
        CHECKS.due("4 lets four more", Checks.receive(x, 2, 4, 0, 0, 0, 1, 0), 5);
        int[] log = {5, 4, 8, 9, 17, 21};
        for (int k = 0; k < log.length; k++) {
            CHECKS.due("log " + k, x.log(2, k), log[k]);
        }
        CHECKS.due("20 waits still", x.held(2), 7);
    }

    private static void sixteenSettleAtOnce() {
        ReplicaDocument x = new ReplicaDocument();
        for (int count = 16; count > 1; count--) {
            CHECKS.due("waits", Checks.receive(x, 0, 4 * count + 1, 0, 0, 0, 0, 1, 4 * count - 3), 0);
        }
        CHECKS.due("the first lets all", Checks.receive(x, 0, 5, 0, 0, 0, 0, 0), 16);
        CHECKS.due("log(0, -1)", x.log(0, -1), 16);
        CHECKS.due("log(0, 15)", x.log(0, 15), 65);
    }

    /** "Which stays there": whatever the answer. */
    private static void theWireStays() {
        int[][] all = {
            {8, 0, 0, 1, 2, 0}, {12, 0, 0, 1, 2, 1, 4}, {8, 0, 0, 1, 2, 0}, {8, 0, 0, 1, 3, 0}, {9, 0, 0, 1, 3, 0},
            {16, 0, 8, 1, 3, 0}, {16, 0, 0, 1, 3, 1, 20}, {16, 0, 0, 1, 100, 0}, {}, new int[16]};
        int[] dues = {1, 0, -8, -3, -4, -5, -6, -2, -2, -2};
        ReplicaDocument x = new ReplicaDocument();
        for (int i = 0; i < all.length; i++) {
            CHECKS.due("receive of " + Arrays.toString(all[i]), Checks.receive(x, 1, all[i]), dues[i]);
            CHECKS.due("wire(-1)", x.wire(-1), all[i].length);
            for (int k = 0; k < all[i].length; k++) {
                CHECKS.due("wire(" + k + ")", x.wire(k), all[i][k]);
            }
        }
    }

    private static void againOnceItIsApplied() {
        int[] bytes = {12, 0, 0, 1, 2, 1, 4};
        ReplicaDocument x = new ReplicaDocument();
        CHECKS.due("waits", Checks.receive(x, 1, bytes), 0);
        CHECKS.due("again while it waits", Checks.receive(x, 1, bytes), -8);
        CHECKS.due("4 lets it", Checks.receive(x, 1, 4, 0, 0, 0, 0, 0), 2);
        CHECKS.due("again when it is applied", Checks.receive(x, 1, bytes), -8);
        bytes[4] = 3;
        CHECKS.due("clash when it is applied", Checks.receive(x, 1, bytes), -3);
        CHECKS.due("another replica takes that", Checks.receive(x, 2, bytes), 0);
        CHECKS.due("held(1)", x.held(1), 2);
    }

    private static void noReplicaIsNone() {
        ReplicaDocument x = new ReplicaDocument();
        int[] noReplicas = {-1, 3, Integer.MIN_VALUE, Integer.MAX_VALUE};
        for (int r : noReplicas) {
            CHECKS.due("broken bytes to " + r, x.receive(r), -1);
            CHECKS.due("good bytes to " + r, Checks.receive(x, r, 4, 0, 0, 0, 0, 0), -1);
            x.cut(0);
        }
    }

    private static void lengthsAreLookedAt() {
        int[] bytes = {160, 0, 0, 0, 0, 6, 4, 5, 6, 8, 9, 10, 12, 13, 14, 16};
        for (int n = 0; n <= 9; n++) {
            for (int length = 0; length <= 16; length++) {
                ReplicaDocument x = new ReplicaDocument();
                bytes[5] = n;
                int due = n <= 6 && length == 6 + n ? (n == 0 ? 1 : 0) : -2;
                CHECKS.due("n " + n + " and " + length + " bytes",
                        Checks.receive(x, 1, Arrays.copyOf(bytes, length)), due);
            }
        }
        ReplicaDocument x = new ReplicaDocument();
        CHECKS.due("n 255", Checks.receive(x, 1, 160, 0, 0, 0, 0, 255), -2);
    }

    /** Every value of each of the first five bytes of a good operation of each kind. */
    private static void everyByteIsLookedAt() {
        int[][] good = {
            {80, 0, 0, 1, 50, 1, 40}, {80, 1, 40, 1, 0, 1, 40}, {80, 2, 40, 0, 0, 1, 40},
            {80, 3, 40, 0, 50, 1, 40}, {80, 4, 40, 0, 0, 1, 40}, {80, 5, 40, 3, 0, 1, 40}};
        for (int[] bytes : good) {
            for (int place = 0; place < 5; place++) {
                for (int b = 0; b < 256; b++) {
                    int[] changed = bytes.clone();
                    changed[place] = b;
                    ReplicaDocument x = new ReplicaDocument();
                    boolean broken = Checks.receive(x, 1, changed) == -2;
                    CHECKS.due(Arrays.toString(changed) + " is broken", broken, !isSound(changed));
                }
            }
        }
    }

    private static boolean isId(int b) {
        return b >= 4 && b <= 162 && b % 4 != 3;
    }

    private static boolean isSound(int[] bytes) {
        int target = bytes[2];
        int slot = bytes[3];
        int value = bytes[4];
        if (!isId(bytes[0])) {
            return false;
        }
        switch (bytes[1]) {
            case 0:
                return (target == 0 || isId(target)) && slot <= 3 && value <= 99;
            case 1:
            case 2:
            case 5:
                return (target == 0 || isId(target)) && slot <= 3 && value == 0;
            case 3:
                return isId(target) && (slot == 0 || isId(slot)) && value <= 99;
            case 4:
                return isId(target) && slot == 0 && value == 0;
            default:
                return false;
        }
    }

    private static void beforeIsLookedAt() {
        for (int b = 0; b < 256; b++) {
            ReplicaDocument x = new ReplicaDocument();
            int due = !isId(b) ? -2 : b >= 162 ? -6 : 0;
            CHECKS.due("BEFORE " + b, Checks.receive(x, 1, 162, 0, 0, 0, 0, 1, b), due);
            x = new ReplicaDocument();
            due = !isId(b) || b <= 40 ? -2 : b >= 162 ? -6 : 0;
            CHECKS.due("BEFORE 40, " + b, Checks.receive(x, 1, 162, 0, 0, 0, 0, 2, 40, b), due);
            x = new ReplicaDocument();
            due = !isId(b) || b >= 40 ? -2 : 0;
            CHECKS.due("BEFORE " + b + ", 40", Checks.receive(x, 1, 162, 0, 0, 0, 0, 2, b, 40), due);
        }
    }

    private static void againAndClash() {
        int[] held = {80, 3, 40, 44, 50, 3, 40, 44, 48};
        int[][] others = {
            {80, 0, 40, 0, 50, 3, 40, 44, 48}, {80, 3, 44, 44, 50, 3, 40, 44, 48},
            {80, 3, 40, 48, 50, 3, 40, 44, 48}, {80, 3, 40, 44, 51, 3, 40, 44, 48},
            {80, 3, 40, 44, 50, 2, 40, 44}, {80, 3, 40, 44, 50, 3, 40, 44, 49},
            {80, 3, 40, 44, 50, 4, 40, 44, 48, 49}};
        ReplicaDocument x = new ReplicaDocument();
        CHECKS.due("waits", Checks.receive(x, 1, held), 0);
        CHECKS.due("again while it waits", Checks.receive(x, 1, held), -8);
        for (int[] other : others) {
            CHECKS.due("clash " + Arrays.toString(other), Checks.receive(x, 1, other), -3);
        }
        CHECKS.due("held", x.held(1), 1);
        x.edit(1, 0, 0, 0, 6);
        x.emit(1, 5);
        CHECKS.due("what it has issued itself", x.receive(1), -8);
        x.alter(4, 7);
        CHECKS.due("the same id, changed", x.receive(1), -3);
    }

    private static void forged() {
        for (int r = 0; r < 3; r++) {
            ReplicaDocument x = new ReplicaDocument();
            for (int owner = 0; owner < 3; owner++) {
                CHECKS.due("id of " + owner + " to " + r, Checks.receive(x, r, 4 + owner, 0, 0, 0, 0, 0),
                        r == owner ? -4 : 1);
            }
        }
    }

    private static void gap() {
        ReplicaDocument x = new ReplicaDocument();
        CHECKS.due("PUT, target not in BEFORE", Checks.receive(x, 1, 80, 0, 40, 0, 0, 0), -5);
        CHECKS.due("MAP", Checks.receive(x, 1, 80, 1, 40, 0, 0, 1, 44), -5);
        CHECKS.due("LIST", Checks.receive(x, 1, 80, 2, 40, 0, 0, 1, 44), -5);
        CHECKS.due("CLEAR", Checks.receive(x, 1, 80, 5, 40, 0, 0, 1, 44), -5);
        CHECKS.due("ERASE", Checks.receive(x, 1, 80, 4, 40, 0, 0, 1, 44), -5);
        CHECKS.due("INSERT, target", Checks.receive(x, 1, 80, 3, 40, 44, 0, 1, 44), -5);
        CHECKS.due("INSERT, slot", Checks.receive(x, 1, 80, 3, 40, 44, 0, 1, 40), -5);
        CHECKS.due("INSERT, at the front", Checks.receive(x, 1, 80, 3, 40, 0, 0, 1, 40), 0);
        CHECKS.due("INSERT, both there", Checks.receive(x, 1, 84, 3, 40, 44, 0, 2, 40, 44), 0);
        CHECKS.due("a key is not named", Checks.receive(x, 1, 88, 0, 40, 3, 0, 1, 40), 0);
    }

    private static void order() {
        ReplicaDocument x = new ReplicaDocument();
        CHECKS.due("its own id", Checks.receive(x, 1, 80, 0, 0, 0, 0, 1, 80), -6);
        CHECKS.due("a greater id of the same count", Checks.receive(x, 1, 80, 0, 0, 0, 0, 2, 4, 81), -6);
        CHECKS.due("a lesser id of the same count", Checks.receive(x, 1, 82, 0, 0, 0, 0, 2, 4, 81), 0);
        CHECKS.due("its own id as target", Checks.receive(x, 1, 80, 1, 80, 0, 0, 1, 80), -6);
    }

    private static void full() {
        ReplicaDocument x = new ReplicaDocument();
        for (int k = 1; k <= 10; k++) {
            CHECKS.due("applied", Checks.receive(x, 2, 4 * k, 0, 0, 0, 0, 0), 1);
        }
        for (int k = 1; k <= 6; k++) {
            CHECKS.due("waits", Checks.receive(x, 2, 80 + 4 * k, 0, 0, 0, 0, 1, 61), 0);
        }
        CHECKS.due("the seventeenth", Checks.receive(x, 2, 61, 0, 0, 0, 0, 0), -7);
        CHECKS.due("held", x.held(2), 16);
        CHECKS.due("log", x.log(2, -1), 10);
        CHECKS.due("again", Checks.receive(x, 2, 4, 0, 0, 0, 0, 0), -8);
        CHECKS.due("clash", Checks.receive(x, 2, 4, 0, 0, 0, 1, 0), -3);
        CHECKS.due("forged", Checks.receive(x, 2, 6, 0, 0, 0, 1, 0), -4);
        CHECKS.due("gap", Checks.receive(x, 2, 80, 0, 4, 0, 1, 0), -5);
        CHECKS.due("order", Checks.receive(x, 2, 80, 0, 0, 0, 1, 1, 81), -6);
        CHECKS.due("broken", Checks.receive(x, 2, 80, 0, 0, 0, 1, 1), -2);
    }

    private static void reasonsComeInTheirOrder() {
        ReplicaDocument x = new ReplicaDocument();
        x.edit(1, 0, 0, 0, 6);
        CHECKS.due("broken, though clashing", Checks.receive(x, 1, 5, 6, 0, 0, 6, 0), -2);
        CHECKS.due("clash ahead of gap and order", Checks.receive(x, 1, 5, 0, 8, 0, 6, 1, 9), -3);
        CHECKS.due("forged ahead of gap and order", Checks.receive(x, 1, 9, 0, 8, 0, 6, 1, 13), -4);
        CHECKS.due("gap ahead of order", Checks.receive(x, 1, 8, 0, 4, 0, 6, 1, 12), -5);
        CHECKS.due("order", Checks.receive(x, 1, 8, 0, 0, 0, 6, 1, 12), -6);
    }

    private static void refusalsChangeNothing() {
        int[][] refused = {
            {4, 0, 0, 0, 0}, {4, 0, 0, 0, 9, 0}, {5, 0, 0, 0, 1, 0}, {8, 0, 40, 0, 0, 0}, {8, 0, 0, 0, 0, 1, 9}};
        for (int[] bytes : refused) {
            ReplicaDocument x = new ReplicaDocument();
            Checks.receive(x, 1, 4, 0, 0, 0, 1, 0);
            Checks.lay(x, bytes);
            String told = Checks.tell(x);
            CHECKS.due("refused", x.receive(1) < 0, true);
            CHECKS.due("nothing changed by " + Arrays.toString(bytes), Checks.tell(x), told);
            CHECKS.due("an edit comes next as ever", x.edit(1, 0, 0, 0, 3), 9);
        }
    }
}

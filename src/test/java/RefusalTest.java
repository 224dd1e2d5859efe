import java.util.Arrays;
import java.util.function.Consumer;
import java.util.function.ToIntFunction;

/** "A call that is refused changes nothing; when several reasons hold, the one that is named first is answered." */
public final class RefusalTest {
    private static final Checks CHECKS = new Checks("RefusalTest");
    private static final int NONE = -1;
    private static final int BROKEN = -2;
    private static final int CLASH = -3;
    private static final int FORGED = -4;
    private static final int GAP = -5;
    private static final int ORDER = -6;
    private static final int FULL = -7;
    private static final int AGAIN = -8;

    public static void main(String[] args) {
        noneOfEditChangesNothing();
        fullOfEditChangesNothing();
        emitChangesNothing();
        alterChangesNothing();
        cutChangesNothing();
        receiveChangesNothing();
        fullOfReceiveChangesNothing();
        readingChangesNothing();
        noneOfEditIsAheadOfEveryFull();
        noneOfReceiveIsAheadOfAll();
        brokenIsAheadOfTheRest();
        againIsAheadOfFull();
        clashIsAheadOfTheRest();
        forgedIsAheadOfTheRest();
        gapIsAheadOfTheRest();
        orderIsAheadOfFull();
        CHECKS.end();
    }

    /** A list with an element, one PUT by another replica, one operation that waits, and bytes on the wire. */
    private static void begin(ReplicaDocument x) {
        x.edit(1, 2, 0, 0, 0);
        x.edit(1, 3, 5, 0, 44);
        x.edit(0, 0, 0, 1, 33);
        Checks.send(x, 0, 4, 1);
        Checks.layWaiting(x, 1, 2, 1);
        Checks.lay(x, 21, 22, 23);
    }

    private static void none(String call, ToIntFunction<ReplicaDocument> refused) {
        CHECKS.changesNothing(call, RefusalTest::begin, refused, NONE);
    }

    private static void noneOfEditChangesNothing() {
        none("edit, no replica", x -> x.edit(3, 0, 0, 0, 0));
        none("edit, no replica", x -> x.edit(-1, 0, 0, 0, 0));
        none("edit, no kind", x -> x.edit(1, 6, 0, 0, 0));
        none("edit, no kind", x -> x.edit(1, -1, 0, 0, 0));
        none("edit, no map", x -> x.edit(1, 0, 5, 0, 0));
        none("edit, no list", x -> x.edit(1, 3, 4, 0, 0));
        none("edit, no element", x -> x.edit(1, 4, 5, 0, 0));
        none("edit, no element ahead", x -> x.edit(1, 3, 5, 5, 0));
        none("edit, no key", x -> x.edit(1, 0, 0, 4, 0));
        none("edit, slot not 0", x -> x.edit(1, 4, 9, 1, 0));
        none("edit, value not 0", x -> x.edit(1, 1, 0, 0, 1));
        none("edit, value not 0 .. 99", x -> x.edit(1, 0, 0, 0, 100));
    }

    private static void fullOfEditChangesNothing() {
        fullOfEdit("sixteen applied", x -> Checks.layHeads(x, 1, 0, 16));
        fullOfEdit("sixteen waiting", x -> Checks.layWaiting(x, 1, 0, 16));
        fullOfEdit("seven heads", x -> Checks.layHeads(x, 1, 0, 7));
        fullOfEdit("count 41", x -> Checks.receive(x, 1, 160, 0, 0, 0, 0, 0));
    }

    private static void fullOfEdit(String why, Consumer<ReplicaDocument> ahead) {
        CHECKS.changesNothing("edit, " + why, ahead, x -> x.edit(1, 0, 0, 0, 0), FULL);
    }

    private static void emitChangesNothing() {
        none("emit, no replica", x -> x.emit(3, 4));
        none("emit, no replica", x -> x.emit(-1, 4));
        none("emit, no such operation", x -> x.emit(1, 8));
        none("emit of the root", x -> x.emit(1, 0));
        none("emit of what another holds", x -> x.emit(0, 5));
        none("emit of what is waited for", x -> x.emit(1, 82));
    }

    private static void alterChangesNothing() {
        CHECKS.changesNothing("alter(-1, 0)", RefusalTest::begin, x -> x.alter(-1, 0));
        CHECKS.changesNothing("alter(4, 0)", RefusalTest::begin, x -> x.alter(4, 0));
        CHECKS.changesNothing("alter(2, 256)", RefusalTest::begin, x -> x.alter(2, 256));
        CHECKS.changesNothing("alter(3, -1)", RefusalTest::begin, x -> x.alter(3, -1));
        CHECKS.changesNothing("alter(16, 0) of sixteen", x -> Checks.lay(x, new int[16]), x -> x.alter(16, 1));
    }

    private static void cutChangesNothing() {
        CHECKS.changesNothing("cut(-1)", RefusalTest::begin, x -> x.cut(-1));
        CHECKS.changesNothing("cut(4)", RefusalTest::begin, x -> x.cut(4));
        CHECKS.changesNothing("cut(17) of sixteen", x -> Checks.lay(x, new int[16]), x -> x.cut(17));
    }

    /** The wire stays too: it is among what is told of both objects. */
    private static void receiveRefuses(int due, int... bytes) {
        Consumer<ReplicaDocument> ahead = x -> {
            begin(x);
            Checks.lay(x, bytes);
        };
        CHECKS.changesNothing("receive of " + Arrays.toString(bytes), ahead, x -> x.receive(1), due);
    }

    private static void receiveChangesNothing() {
        receiveRefuses(BROKEN);
        receiveRefuses(BROKEN, 40, 0, 0, 0, 0);
        receiveRefuses(BROKEN, 40, 0, 0, 0, 0, 1, 3);
        receiveRefuses(AGAIN, 4, 0, 0, 1, 33, 0);
        receiveRefuses(AGAIN, 86, 0, 0, 0, 0, 1, 82);
        receiveRefuses(AGAIN, 5, 2, 0, 0, 0, 0);
        receiveRefuses(CLASH, 4, 0, 0, 1, 34, 0);
        receiveRefuses(CLASH, 86, 0, 0, 0, 0, 0);
        receiveRefuses(CLASH, 86, 0, 0, 0, 7, 1, 82);
        receiveRefuses(CLASH, 5, 1, 0, 0, 0, 0);
        receiveRefuses(FORGED, 41, 0, 0, 0, 0, 0);
        receiveRefuses(GAP, 40, 3, 5, 0, 0, 0);
        receiveRefuses(ORDER, 40, 0, 0, 0, 0, 1, 41);
        none("receive, no replica", x -> x.receive(3));
        none("receive, no replica", x -> x.receive(-1));
    }

    private static void fullOfReceiveChangesNothing() {
        Consumer<ReplicaDocument> ahead = x -> {
            Checks.layWaiting(x, 1, 0, 4);
            Checks.layHeads(x, 1, 0, 12);
            Checks.lay(x, 80, 0, 0, 0, 0, 0);
        };
        CHECKS.changesNothing("receive, though it would let four", ahead, x -> x.receive(1), FULL);
    }

    private static void readingChangesNothing() {
        none("wire", x -> x.wire(16));
        none("held", x -> x.held(3));
        none("log", x -> x.log(1, 3));
        CHECKS.changesNothing("past", RefusalTest::begin, x -> x.past(1, 86, 4));
        none("heads", x -> x.heads(-1));
        none("entry", x -> x.entry(1, 0, 0, 1));
        none("element", x -> x.element(1, 5, 1));
        none("value", x -> x.value(1, 86));
        none("depth", x -> x.depth(1, 86));
        CHECKS.changesNothing("sum", RefusalTest::begin, x -> x.sum(3), 0);
        CHECKS.changesNothing("level", RefusalTest::begin, x -> x.level(0, 3));
    }

    private static void noneOfEditIsAheadOfEveryFull() {
        ReplicaDocument[] full = {new ReplicaDocument(), new ReplicaDocument(), new ReplicaDocument()};
        Checks.layHeads(full[0], 1, 0, 16);
        Checks.layHeads(full[1], 1, 0, 7);
        Checks.receive(full[2], 1, 162, 0, 0, 0, 0, 0);
        for (ReplicaDocument x : full) {
            CHECKS.due("full", x.edit(1, 0, 0, 0, 0), FULL);
            CHECKS.due("and no kind", x.edit(1, 6, 0, 0, 0), NONE);
            CHECKS.due("and no map", x.edit(1, 0, 4, 0, 0), NONE);
            CHECKS.due("and no list", x.edit(1, 3, 4, 0, 0), NONE);
            CHECKS.due("and no element", x.edit(1, 4, 4, 0, 0), NONE);
            CHECKS.due("and no key", x.edit(1, 0, 0, 4, 0), NONE);
            CHECKS.due("and a value that must be 0", x.edit(1, 5, 0, 0, 1), NONE);
            CHECKS.due("and a value over 99", x.edit(1, 0, 0, 0, 100), NONE);
            CHECKS.due("full still", x.edit(1, 0, 0, 0, 0), FULL);
        }
    }

    private static void noneOfReceiveIsAheadOfAll() {
        int[][] all = {
            {}, {4, 6, 0, 0, 0, 0}, {4, 0, 0, 0, 0, 0}, {8, 0, 4, 0, 0, 0}, {8, 0, 0, 0, 0, 1, 12}};
        for (int[] bytes : all) {
            CHECKS.due("to -1", Checks.receive(new ReplicaDocument(), -1, bytes), NONE);
            CHECKS.due("to 3", Checks.receive(new ReplicaDocument(), 3, bytes), NONE);
        }
    }

    /** Replica 1 holds sixteen: 4, 8, .., 60 by replica 0 and 65 by itself. */
    private static ReplicaDocument fullReplica() {
        ReplicaDocument x = new ReplicaDocument();
        Checks.receive(x, 1, 4, 0, 0, 0, 0, 0);
        for (int count = 2; count <= 15; count++) {
            Checks.receive(x, 1, 4 * count, 0, 0, 0, 0, 1, 4 * count - 4);
        }
        x.edit(1, 0, 0, 0, 0);
        CHECKS.due("held", x.held(1), 16);
        return x;
    }

    private static ReplicaDocument roomyReplica() {
        ReplicaDocument x = new ReplicaDocument();
        Checks.receive(x, 1, 4, 0, 0, 0, 0, 0);
        Checks.receive(x, 1, 60, 0, 0, 0, 0, 1, 4);
        x.edit(1, 0, 0, 0, 0);
        return x;
    }

    private static void answers(int due, ReplicaDocument x, int... bytes) {
        CHECKS.due("receive of " + Arrays.toString(bytes), Checks.receive(x, 1, bytes), due);
    }

    private static void brokenIsAheadOfTheRest() {
        ReplicaDocument[] both = {roomyReplica(), fullReplica()};
        for (ReplicaDocument x : both) {
            answers(BROKEN, x, 4, 0, 0, 0, 0);
            answers(BROKEN, x, 4, 0, 0, 0, 0, 0, 0);
            answers(BROKEN, x, 4, 0, 0, 0, 100, 0);
            answers(BROKEN, x, 65, 0, 0, 0, 100, 0);
            answers(BROKEN, x, 69, 0, 0, 4, 0, 0);
            answers(BROKEN, x, 80, 0, 4, 4, 0, 0);
            answers(BROKEN, x, 80, 1, 0, 0, 1, 1, 84);
            answers(BROKEN, x, 80, 0, 0, 0, 0, 2, 4, 4);
        }
    }

    /** And ahead of FORGED: an own operation that was issued is held. */
    private static void againIsAheadOfFull() {
        ReplicaDocument[] both = {roomyReplica(), fullReplica()};
        int[] befores = {4, 56};
        for (int i = 0; i < 2; i++) {
            answers(AGAIN, both[i], 4, 0, 0, 0, 0, 0);
            answers(AGAIN, both[i], 60, 0, 0, 0, 0, 1, befores[i]);
            answers(AGAIN, both[i], 65, 0, 0, 0, 0, 1, 60);
        }
    }

    private static void clashIsAheadOfTheRest() {
        ReplicaDocument[] both = {roomyReplica(), fullReplica()};
        for (ReplicaDocument x : both) {
            answers(CLASH, x, 4, 0, 0, 0, 1, 0);
            answers(CLASH, x, 65, 0, 0, 0, 1, 1, 60);
            answers(CLASH, x, 65, 0, 4, 0, 0, 1, 60);
            answers(CLASH, x, 65, 0, 0, 0, 0, 1, 69);
            answers(CLASH, x, 4, 0, 60, 0, 0, 0);
            answers(CLASH, x, 4, 0, 0, 0, 0, 1, 60);
            answers(CLASH, x, 4, 0, 60, 0, 0, 1, 64);
        }
    }

    private static void forgedIsAheadOfTheRest() {
        ReplicaDocument[] both = {roomyReplica(), fullReplica()};
        for (ReplicaDocument x : both) {
            answers(FORGED, x, 69, 0, 0, 0, 0, 0);
            answers(FORGED, x, 5, 0, 0, 0, 0, 0);
            answers(FORGED, x, 69, 0, 4, 0, 0, 0);
            answers(FORGED, x, 69, 0, 0, 0, 0, 1, 72);
            answers(FORGED, x, 69, 0, 4, 0, 0, 1, 72);
        }
    }

    private static void gapIsAheadOfTheRest() {
        ReplicaDocument[] both = {roomyReplica(), fullReplica()};
        for (ReplicaDocument x : both) {
            answers(GAP, x, 80, 0, 4, 0, 0, 0);
            answers(GAP, x, 80, 0, 4, 0, 0, 1, 80);
            answers(GAP, x, 80, 0, 84, 0, 0, 0);
            answers(GAP, x, 80, 3, 4, 60, 0, 2, 4, 84);
        }
    }

    private static void orderIsAheadOfFull() {
        answers(ORDER, fullReplica(), 80, 0, 0, 0, 0, 1, 80);
        answers(ORDER, fullReplica(), 80, 0, 84, 0, 0, 1, 84);
        answers(ORDER, fullReplica(), 80, 0, 0, 0, 0, 2, 4, 84);
        answers(FULL, fullReplica(), 80, 0, 0, 0, 0, 1, 4);
        answers(ORDER, roomyReplica(), 80, 0, 0, 0, 0, 1, 80);
        answers(1, roomyReplica(), 80, 0, 0, 0, 0, 1, 4);
    }
}

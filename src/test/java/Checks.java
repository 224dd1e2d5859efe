import java.util.function.Consumer;
import java.util.function.Predicate;
import java.util.function.ToIntFunction;

/** Counts the answers of one test and tells those that are not as due. */
final class Checks {
    private final String test;
    private int asked = 0;
    private int wrong = 0;

    Checks(String test) {
        this.test = test;
    }

    void due(String call, long got, long want) {
        asked++;
        if (got != want) {
            wrong++;
            System.out.println(test + ": " + call + " answered " + got + ", due is " + want);
        }
    }

    void due(String call, String got, String want) {
        due(got.equals(want) ? call : call + ":\n" + got + "\ninstead of\n" + want + "\n", got.equals(want), true);
    }

    void due(String call, boolean got, boolean want) {
        due(call, got ? 1L : 0L, want ? 1L : 0L);
    }

    /** Exit code 1 when an answer was wrong, or when nothing was asked at all. */
    void end() {
        System.out.println(test + ": " + asked + " answers, " + wrong + " not as due");
        if (wrong != 0 || asked == 0) {
            System.exit(1);
        }
    }

    /** Lays these bytes on the wire. */
    static void lay(ReplicaDocument x, int... bytes) {
        x.cut(0);
        for (int k = 0; k < bytes.length; k++) {
            x.alter(k, bytes[k]);
        }
    }

    static int receive(ReplicaDocument x, int r, int... bytes) {
        lay(x, bytes);
        return x.receive(r);
    }

    static int send(ReplicaDocument x, int from, int id, int to) {
        x.emit(from, id);
        return x.receive(to);
    }

    /** Lays so many bare PUTs of count 1 and up, known to nobody else, before the replica: as many heads. */
    static void layHeads(ReplicaDocument x, int r, int owner, int number) {
        for (int count = 1; count <= number; count++) {
            receive(x, r, 4 * count + owner, 0, 0, 0, 0, 0);
        }
    }

    /** Lays so many operations before the replica that wait for the missing one. */
    static void layWaiting(ReplicaDocument x, int r, int owner, int number) {
        for (int count = 21; count < 21 + number; count++) {
            receive(x, r, 4 * count + owner, 0, 0, 0, 0, 1, 80 + owner);
        }
    }

    static int layMissing(ReplicaDocument x, int r, int owner) {
        return receive(x, r, 80 + owner, 0, 0, 0, 0, 0);
    }

    /**
     * Two objects with the same calls behind them, of which one has had the refused call too: no
     * answer tells them apart, neither at once nor when the replicas have gone on.
     */
    void changesNothing(String call, Consumer<ReplicaDocument> ahead, ToIntFunction<ReplicaDocument> refused, int due) {
        // What waits is seen only when the missing one has come.
        for (int stepsOn = 0; stepsOn < 3; stepsOn++) {
            ReplicaDocument with = new ReplicaDocument();
            ReplicaDocument without = new ReplicaDocument();
            ahead.accept(with);
            ahead.accept(without);
            due(call, refused.applyAsInt(with), due);
            for (int r = 0; r < 3 && stepsOn > 0; r++) {
                due("edit behind " + call, with.edit(r, 0, 0, 3, 9), without.edit(r, 0, 0, 3, 9));
            }
            for (int owner = 0; owner < 3 && stepsOn > 1; owner++) {
                due("what is missing, behind " + call, layMissing(with, 1, owner), layMissing(without, 1, owner));
            }
            due("nothing changed by " + call, tell(with), tell(without));
        }
    }

    void changesNothing(String call, Consumer<ReplicaDocument> ahead, Predicate<ReplicaDocument> refused) {
        changesNothing(call, ahead, x -> refused.test(x) ? 1 : 0, 0);
    }

    /** What can be asked of the object, told as a text; some 350 calls at most. */
    static String tell(ReplicaDocument x) {
        StringBuilder told = new StringBuilder("wire");
        for (int k = -1; k < 17; k++) {
            told.append(' ').append(x.wire(k));
        }
        for (int r = 0; r < 3; r++) {
            told.append("\nreplica ").append(r).append(": ").append(x.held(r)).append(' ').append(x.heads(r));
            told.append(' ').append(x.sum(r)).append(" levels");
            for (int other = 0; other < 3; other++) {
                told.append(' ').append(x.level(r, other));
            }
            tellMap(told, x, r, 0);
            tellLog(told, x, r);
        }
        return told.toString();
    }

    private static void tellLog(StringBuilder told, ReplicaDocument x, int r) {
        int count = x.log(r, -1);
        for (int k = 0; k < count; k++) {
            int id = x.log(r, k);
            told.append("\n  ").append(id).append(": ").append(x.value(r, id)).append(' ').append(x.depth(r, id));
            tellMap(told, x, r, id);
            int elements = x.element(r, id, -1);
            told.append(" elements ").append(elements);
            for (int e = 0; e < elements; e++) {
                told.append(' ').append(x.element(r, id, e));
            }
        }
    }

    private static void tellMap(StringBuilder told, ReplicaDocument x, int r, int id) {
        int entries = x.entry(r, id, 0, -1);
        told.append(" entries ").append(entries);
        for (int key = 1; entries >= 0 && key < 4; key++) {
            told.append(' ').append(x.entry(r, id, key, -1));
        }
    }
}

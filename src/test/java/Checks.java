/** Counts the answers of one test and tells those that are not as due. */
final class Checks {
    private final String test;
    private int asked = 0;
    private int wrong = 0;

    Checks(String test) {
        this.test = test;
    }

    void due(String call, long got, long want) {
        asked++;
        if (got != want) {
            wrong++;
            System.out.println(test + ": " + call + " answered " + got + ", due is " + want);
        }
    }

    void due(String call, boolean got, boolean want) {
        due(call, got ? 1L : 0L, want ? 1L : 0L);
    }

    /** Exit code 1 when an answer was wrong, or when nothing was asked at all. */
    void end() {
        System.out.println(test + ": " + asked + " answers, " + wrong + " not as due");
        if (wrong != 0 || asked == 0) {
            System.exit(1);
        }
    }

    /** Lays these bytes on the wire. */
    static void lay(ReplicaDocument x, int... bytes) {
        x.cut(0);
        for (int k = 0; k < bytes.length; k++) {
            x.alter(k, bytes[k]);
        }
    }

    static int receive(ReplicaDocument x, int r, int... bytes) {
        lay(x, bytes);
        return x.receive(r);
    }

    static int send(ReplicaDocument x, int from, int id, int to) {
        x.emit(from, id);
        return x.receive(to);
    }

    /** All that can be asked of the object, told as a text. */
    static String tell(ReplicaDocument x) {
        StringBuilder told = new StringBuilder("wire");
        for (int k = -1; k < 17; k++) {
            told.append(' ').append(x.wire(k));
        }
        for (int r = 0; r < 3; r++) {
            told.append("\nreplica ").append(r).append(": ").append(x.held(r)).append(' ').append(x.heads(r));
            told.append(' ').append(x.sum(r)).append(" levels");
            for (int other = 0; other < 3; other++) {
                told.append(' ').append(x.level(r, other));
            }
            told.append(" log");
            for (int k = -1; k < 16; k++) {
                int id = x.log(r, k);
                told.append(' ').append(id);
                if (k >= 0 && id != ReplicaDocument.NONE) {
                    told.append('=').append(x.value(r, id)).append('/').append(x.depth(r, id));
                }
            }
        }
        return told.toString();
    }
}

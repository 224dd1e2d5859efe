/** Promise 1: a new object. */
public final class NewObjectTest {
    public static void main(String[] args) {
        Checks checks = new Checks("NewObjectTest");
        ReplicaDocument x = new ReplicaDocument();
        checks.due("wire(-1)", x.wire(-1), 0);
        checks.due("wire(0)", x.wire(0), -1);
        for (int r = 0; r < 3; r++) {
            checks.due("held", x.held(r), 0);
            checks.due("log(r, -1)", x.log(r, -1), 0);
            checks.due("log(r, 0)", x.log(r, 0), -1);
            checks.due("heads", x.heads(r), 0);
            checks.due("sum", x.sum(r), 7);
            checks.due("depth of the root", x.depth(r, 0), 0);
            for (int key = 0; key < 4; key++) {
                checks.due("entries of the root", x.entry(r, 0, key, -1), 0);
                checks.due("entry 0 of the root", x.entry(r, 0, key, 0), -1);
            }
            for (int id = 1; id < 256; id++) {
                nothingIsThere(checks, new ReplicaDocument(), r, id);
            }
            for (int other = 0; other < 3; other++) {
                checks.due("level", x.level(r, other), true);
            }
        }
        twoObjectsAreApart(checks);
        checks.end();
    }

    private static void nothingIsThere(Checks checks, ReplicaDocument x, int r, int id) {
        checks.due("value", x.value(r, id), -1);
        checks.due("depth", x.depth(r, id), -1);
        checks.due("entry", x.entry(r, id, 0, -1), -1);
        checks.due("element", x.element(r, id, -1), -1);
        checks.due("emit", x.emit(r, id), -1);
    }

    private static void twoObjectsAreApart(Checks checks) {
        ReplicaDocument one = new ReplicaDocument();
        ReplicaDocument other = new ReplicaDocument();
        one.edit(0, 0, 0, 0, 1);
        one.emit(0, 4);
        checks.due("held of another object", other.held(0), 0);
        checks.due("wire of another object", other.wire(-1), 0);
        checks.due("sum of another object", other.sum(0), 7);
    }
}

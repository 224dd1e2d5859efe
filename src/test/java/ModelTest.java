import java.util.ArrayList;
import java.util.List;
import java.util.Random;
import java.util.TreeMap;

/** All promises: runs of 512 calls, as many as an object is used for, each answered as the model answers. */
public final class ModelTest {
    private static final int RUNS = 4000;
    private static final int STEPS = 160;
    private static final int MOST_CALLS = 470;
    private static final int LAST_CALL = 512;
    private static final int[] EDGES = {
        -256, -2, -1, 0, 1, 2, 3, 4, 5, 6, 7, 15, 16, 17, 40, 99, 100, 160, 163, 255, 256,
        Integer.MIN_VALUE, Integer.MIN_VALUE + 1, Integer.MAX_VALUE - 1, Integer.MAX_VALUE};

    private final Checks checks;
    private final Random random;
    private final ReplicaDocument x = new ReplicaDocument();
    private final Model model = new Model();
    private final TreeMap<String, Integer> seen;
    private final List<Integer> ids = new ArrayList<>();
    private final StringBuilder told = new StringBuilder();
    private int calls = 0;

    private ModelTest(Checks checks, long seed, TreeMap<String, Integer> seen) {
        this.checks = checks;
        this.random = new Random(seed);
        this.seen = seen;
    }

    public static void main(String[] args) {
        Checks checks = new Checks("ModelTest");
        TreeMap<String, Integer> seen = new TreeMap<>();
        for (int seed = 0; seed < RUNS; seed++) {
            ModelTest test = new ModelTest(checks, seed, seen);
            test.run();
            seen.merge("ended", test.calls == LAST_CALL ? 1 : 0, Integer::sum);
        }
        String[] answers = {
            "edit -7", "edit -1", "emit -1", "receive -8", "receive -7", "receive -6", "receive -5", "receive -4",
            "receive -3", "receive -2", "receive -1", "receive 0", "receive 1", "receive 2", "receive 3"};
        for (String answer : answers) {
            checks.due("some run met " + answer, seen.getOrDefault(answer, 0) > 20, true);
        }
        checks.due("runs that ended with the 512th call", seen.get("ended"), RUNS);
        checks.end();
    }

    private int below(int bound) {
        return random.nextInt(bound);
    }

    private void same(String call, int got, int want) {
        calls++;
        told.append(call).append(" = ").append(want).append("; ");
        checks.due(got == want ? call : told.toString(), got, want);
        String name = call.substring(0, call.indexOf('('));
        if (name.equals("edit") || name.equals("emit") || name.equals("receive")) {
            seen.merge(name + " " + want, 1, Integer::sum);
        }
    }

    private void same(String call, boolean got, boolean want) {
        same(call, got ? 1 : 0, want ? 1 : 0);
    }

    private void run() {
        // Some runs begin with bare heads, so that BEFORE gets long.
        if (below(4) == 0) {
            for (int k = 0; k < 7; k++) {
                layHead(4 * (k + 1) + 1);
            }
        }
        for (int step = 0; step < STEPS && calls < MOST_CALLS - 130; step++) {
            act();
        }
        lookAtAll();
        while (calls < LAST_CALL) {
            askAnything();
        }
    }

    private void layHead(int id) {
        cut(0);
        int[] bytes = {id, 0, 0, below(4), below(100), 0};
        for (int k = 0; k < 6; k++) {
            alter(k, bytes[k]);
        }
        receive(0);
    }

    private void act() {
        int what = below(19);
        if (what < 7) {
            editSomething();
        } else if (what < 13) {
            sendSomething();
        } else if (what < 18) {
            spoilAndReceive();
        } else {
            look(replica());
        }
    }

    private int replica() {
        return below(40) == 0 ? below(7) - 2 : below(3);
    }

    private int knownId() {
        if (ids.isEmpty() || below(20) == 0) {
            return below(180) - 4;
        }
        return ids.get(below(ids.size()));
    }

    /** An operation of this kind that the replica has applied, if luck finds one. */
    private int appliedOf(int r, int kind) {
        for (int tries = 0; tries < 12; tries++) {
            int id = knownId();
            if (kind == 1 ? model.entry(r, id, 0, -1) >= 0
                    : kind == 2 ? model.element(r, id, -1) >= 0 : model.depth(r, id) >= 0) {
                return id;
            }
        }
        return knownId();
    }

    private void editSomething() {
        int r = replica();
        int kind = below(50) == 0 ? below(9) - 2 : below(6);
        int target = below(3) == 0 ? 0 : appliedOf(r, 1);
        int slot = below(30) == 0 ? below(8) - 2 : below(2);
        int value = kind == 0 || kind == 3 ? below(100) : 0;
        if (kind == 3) {
            target = appliedOf(r, 2);
            int count = model.element(r, target, -1);
            slot = count > 0 && below(3) != 0 ? model.element(r, target, below(count)) : below(4) == 0 ? knownId() : 0;
        } else if (kind == 4) {
            target = appliedOf(r, 3);
            slot = 0;
        }
        if (below(30) == 0) {
            value = below(120) - 10;
        }
        edit(r, kind, target, slot, value);
    }

    private void edit(int r, int kind, int target, int slot, int value) {
        int want = model.edit(r, kind, target, slot, value);
        same("edit(" + r + ", " + kind + ", " + target + ", " + slot + ", " + value + ")",
                x.edit(r, kind, target, slot, value), want);
        if (want > 0) {
            ids.add(want);
        }
    }

    private void emit(int r, int id) {
        same("emit(" + r + ", " + id + ")", x.emit(r, id), model.emit(r, id));
    }

    private void receive(int r) {
        int id = model.wire(0);
        int want = model.receive(r);
        same("receive(" + r + ")", x.receive(r), want);
        if (want >= 0 && !ids.contains(id)) {
            ids.add(id);
        }
    }

    private void alter(int k, int b) {
        same("alter(" + k + ", " + b + ")", x.alter(k, b), model.alter(k, b));
    }

    private void cut(int n) {
        same("cut(" + n + ")", x.cut(n), model.cut(n));
    }

    private void sendSomething() {
        int from = replica();
        int id = below(3) == 0 ? knownId() : model.log(from, below(Math.max(1, model.log(from, -1))));
        emit(from, id);
        int to = replica();
        receive(to);
        if (below(3) == 0) {
            receive(replica());
        }
    }

    private void spoilAndReceive() {
        if (model.wire(-1) < 6 || below(2) == 0) {
            emit(replica(), knownId());
        }
        int length = model.wire(-1);
        int what = below(8);
        if (what == 0) {
            cut(below(length + 4) - 1);
        } else if (what == 1) {
            alter(below(20) - 1, below(260) - 2);
        } else if (what == 2 && length > 5) {
            alter(5, length - 5);
            alter(length, Math.floorMod(knownId(), 256));
        } else if (what == 3) {
            alter(0, 4 * (1 + below(40)) + below(3));
            alter(1, below(6));
        } else if (what == 4) {
            alter(0, 4 * (1 + below(40)) + below(3));
        } else if (what == 5) {
            alter(2, Math.floorMod(knownId(), 256));
        } else if (what == 6) {
            alter(3 + below(2), below(5));
        } else {
            alter(6 + below(3), Math.floorMod(knownId(), 256));
        }
        receive(replica());
    }

    private void look(int r) {
        int a = knownId();
        int b = knownId();
        int k = below(6) - 2;
        int key = below(6) - 1;
        same("wire(" + k + ")", x.wire(k), model.wire(k));
        same("held(" + r + ")", x.held(r), model.held(r));
        same("log(" + r + ", " + k + ")", x.log(r, k), model.log(r, k));
        same("past(" + r + ", " + a + ", " + b + ")", x.past(r, a, b), model.past(r, a, b));
        same("heads(" + r + ")", x.heads(r), model.heads(r));
        lookAtEntry(r, below(2) == 0 ? 0 : a, key, k);
        same("element(" + r + ", " + a + ", " + k + ")", x.element(r, a, k), model.element(r, a, k));
        same("value(" + r + ", " + a + ")", x.value(r, a), model.value(r, a));
        same("depth(" + r + ", " + a + ")", x.depth(r, a), model.depth(r, a));
        same("sum(" + r + ")", x.sum(r), model.sum(r));
        same("level(" + r + ", " + b % 3 + ")", x.level(r, b % 3), model.level(r, b % 3));
    }

    private void lookAtEntry(int r, int m, int key, int k) {
        same("entry(" + r + ", " + m + ", " + key + ", " + k + ")", x.entry(r, m, key, k), model.entry(r, m, key, k));
    }

    private void lookAtEntries(int r, int m) {
        for (int key = 0; key < 4; key++) {
            for (int k = -1; k < model.entry(r, m, key, -1); k++) {
                lookAtEntry(r, m, key, k);
            }
        }
    }

    private void lookAtAll() {
        int r = below(3);
        lookAtEntries(r, 0);
        for (int k = -1; k < 16; k++) {
            same("log(" + r + ", " + k + ")", x.log(r, k), model.log(r, k));
        }
        for (int i = 0; i < ids.size() && calls < MOST_CALLS; i++) {
            int id = ids.get(i);
            if (model.entry(r, id, 0, -1) >= 0) {
                lookAtEntries(r, id);
            }
            same("depth(" + r + ", " + id + ")", x.depth(r, id), model.depth(r, id));
            for (int k = 0; k < model.element(r, id, -1); k++) {
                same("element(" + r + ", " + id + ", " + k + ")", x.element(r, id, k), model.element(r, id, k));
            }
        }
        same("sum(" + r + ")", x.sum(r), model.sum(r));
    }

    private int anyNumber() {
        return below(3) == 0 ? knownId() : EDGES[below(EDGES.length)];
    }

    private int anyReplica() {
        return below(4) == 0 ? anyNumber() : below(3);
    }

    /** Any call with any numbers, up to the last call that an object is used for. */
    private void askAnything() {
        int r = anyReplica();
        int a = anyNumber();
        int b = anyNumber();
        int c = anyNumber();
        switch (below(16)) {
            case 0 -> edit(r, below(4) == 0 ? a : below(6), b, c, anyNumber());
            case 1 -> emit(r, a);
            case 2 -> same("wire(" + a + ")", x.wire(a), model.wire(a));
            case 3 -> alter(a, b);
            case 4 -> cut(a);
            case 5 -> receive(r);
            case 6 -> same("held(" + r + ")", x.held(r), model.held(r));
            case 7 -> same("log(" + r + ", " + a + ")", x.log(r, a), model.log(r, a));
            case 8 -> same("past(" + r + ", " + a + ", " + b + ")", x.past(r, a, b), model.past(r, a, b));
            case 9 -> same("heads(" + r + ")", x.heads(r), model.heads(r));
            case 10 -> lookAtEntry(r, a, b, c);
            case 11 -> same("element(" + r + ", " + a + ", " + b + ")", x.element(r, a, b), model.element(r, a, b));
            case 12 -> same("value(" + r + ", " + a + ")", x.value(r, a), model.value(r, a));
            case 13 -> same("depth(" + r + ", " + a + ")", x.depth(r, a), model.depth(r, a));
            case 14 -> same("sum(" + r + ")", x.sum(r), model.sum(r));
            default -> {
                int other = anyReplica();
                same("level(" + r + ", " + other + ")", x.level(r, other), model.level(r, other));
            }
        }
    }
}

import java.util.ArrayList;
import java.util.Comparator;
import java.util.HashSet;
import java.util.List;
import java.util.Set;
import java.util.TreeSet;

/**
 * The document's words taken one by one, with sets and recursion and nothing remembered but what
 * the replicas hold: another way to the same answers.
 */
final class Model {
    private record Op(int id, int kind, int target, int slot, int value, List<Integer> before) {
        List<Integer> bytes() {
            List<Integer> bytes = new ArrayList<>(List.of(id, kind, target, slot, value, before.size()));
            bytes.addAll(before);
            return bytes;
        }

        Set<Integer> named() {
            Set<Integer> named = new TreeSet<>();
            named.add(target);
            if (kind == 3) {
                named.add(slot);
            }
            named.remove(0);
            return named;
        }
    }

    private final List<List<Op>> applied = List.of(new ArrayList<>(), new ArrayList<>(), new ArrayList<>());
    private final List<List<Op>> waiting = List.of(new ArrayList<>(), new ArrayList<>(), new ArrayList<>());
    private List<Integer> wire = new ArrayList<>();

    private static boolean noReplica(int r) {
        return r < 0 || r > 2;
    }

    private static boolean isId(int id) {
        for (int c = 1; c <= 40; c++) {
            for (int r = 0; r <= 2; r++) {
                if (4 * c + r == id) {
                    return true;
                }
            }
        }
        return false;
    }

    private static boolean in(int number, int least, int most) {
        return least <= number && number <= most;
    }

    private static Op find(List<Op> ops, int id) {
        return ops.stream().filter(o -> o.id == id).findFirst().orElse(null);
    }

    private List<Op> holds(int r) {
        List<Op> all = new ArrayList<>(applied.get(r));
        all.addAll(waiting.get(r));
        return all;
    }

    private static boolean isKind(List<Op> ops, int id, int kind) {
        Op op = find(ops, id);
        return op != null && op.kind == kind;
    }

    private static boolean isFittingInsert(List<Op> ops, int id) {
        return isKind(ops, id, 3) && fits(ops, find(ops, id));
    }

    private static boolean fits(List<Op> ops, Op op) {
        if (op.kind == 3) {
            return isKind(ops, op.target, 2) && (op.slot == 0
                    || isFittingInsert(ops, op.slot) && find(ops, op.slot).target == op.target);
        }
        if (op.kind == 4) {
            return isFittingInsert(ops, op.target);
        }
        return op.target == 0 || isKind(ops, op.target, 1);
    }

    private static Set<Integer> pastOf(List<Op> ops, Op op) {
        Set<Integer> past = new HashSet<>(op.before);
        for (int id : op.before) {
            past.addAll(pastOf(ops, find(ops, id)));
        }
        return past;
    }

    private static List<Integer> headsOf(List<Op> ops) {
        return ops.stream().map(Op::id).filter(id -> ops.stream().noneMatch(o -> o.before.contains(id))).toList();
    }

    private int settle(int r) {
        int count = 0;
        while (true) {
            Op next = waiting.get(r).stream()
                    .filter(o -> o.before.stream().allMatch(id -> find(applied.get(r), id) != null))
                    .min(Comparator.comparingInt(Op::id)).orElse(null);
            if (next == null) {
                return count;
            }
            waiting.get(r).remove(next);
            applied.get(r).add(next);
            count++;
        }
    }

    int edit(int r, int kind, int target, int slot, int value) {
        if (noReplica(r) || !in(kind, 0, 5)) {
            return -1;
        }
        Op bare = new Op(0, kind, target, slot, value, List.of());
        boolean slotIsBad = kind == 4 ? slot != 0 : kind != 3 && !in(slot, 0, 3);
        boolean valueIsBad = kind == 0 || kind == 3 ? !in(value, 0, 99) : value != 0;
        if (!fits(applied.get(r), bare) || slotIsBad || valueIsBad) {
            return -1;
        }
        int count = 1 + applied.get(r).stream().mapToInt(o -> o.id / 4).max().orElse(0);
        TreeSet<Integer> before = new TreeSet<>(headsOf(applied.get(r)));
        before.addAll(bare.named());
        if (holds(r).size() >= 16 || before.size() > 6 || count > 40) {
            return -7;
        }
        applied.get(r).add(new Op(4 * count + r, kind, target, slot, value, List.copyOf(before)));
        settle(r);
        return 4 * count + r;
    }

    int emit(int r, int id) {
        if (noReplica(r) || find(holds(r), id) == null) {
            return -1;
        }
        wire = find(holds(r), id).bytes();
        return wire.size();
    }

    int wire(int k) {
        if (k == -1) {
            return wire.size();
        }
        return in(k, 0, wire.size() - 1) ? wire.get(k) : -1;
    }

    boolean alter(int k, int b) {
        if (!in(k, 0, wire.size()) || !in(b, 0, 255) || k == 16) {
            return false;
        }
        if (k == wire.size()) {
            wire.add(b);
        } else {
            wire.set(k, b);
        }
        return true;
    }

    boolean cut(int n) {
        if (!in(n, 0, wire.size())) {
            return false;
        }
        wire = new ArrayList<>(wire.subList(0, n));
        return true;
    }

    private boolean isWellFormed() {
        if (wire.size() < 6 || wire.get(5) > 6 || wire.size() != 6 + wire.get(5)) {
            return false;
        }
        for (int k = 6; k < wire.size(); k++) {
            if (!isId(wire.get(k)) || k > 6 && wire.get(k) <= wire.get(k - 1)) {
                return false;
            }
        }
        int kind = wire.get(1);
        int target = wire.get(2);
        int slot = wire.get(3);
        int value = wire.get(4);
        boolean parts = switch (kind) {
            case 0, 1, 2, 5 -> (target == 0 || isId(target)) && slot <= 3;
            case 3 -> isId(target) && (slot == 0 || isId(slot));
            case 4 -> isId(target) && slot == 0;
            default -> false;
        };
        return isId(wire.get(0)) && parts && (kind == 0 || kind == 3 ? value <= 99 : value == 0);
    }

    int receive(int r) {
        if (noReplica(r)) {
            return -1;
        }
        if (!isWellFormed()) {
            return -2;
        }
        Op op = new Op(wire.get(0), wire.get(1), wire.get(2), wire.get(3), wire.get(4),
                List.copyOf(wire.subList(6, wire.size())));
        if (holds(r).contains(op)) {
            return -8;
        }
        if (find(holds(r), op.id) != null) {
            return -3;
        }
        if (op.id % 4 == r) {
            return -4;
        }
        if (!op.before.containsAll(op.named())) {
            return -5;
        }
        if (op.before.stream().anyMatch(id -> id >= op.id)) {
            return -6;
        }
        if (holds(r).size() == 16) {
            return -7;
        }
        waiting.get(r).add(op);
        return settle(r);
    }

    int held(int r) {
        return noReplica(r) ? -1 : holds(r).size();
    }

    int log(int r, int k) {
        if (noReplica(r)) {
            return -1;
        }
        if (k == -1) {
            return applied.get(r).size();
        }
        return in(k, 0, applied.get(r).size() - 1) ? applied.get(r).get(k).id : -1;
    }

    boolean past(int r, int x, int y) {
        if (noReplica(r) || find(applied.get(r), x) == null || find(applied.get(r), y) == null) {
            return false;
        }
        return pastOf(applied.get(r), find(applied.get(r), y)).contains(x);
    }

    int heads(int r) {
        return noReplica(r) ? -1 : headsOf(applied.get(r)).size();
    }

    private static boolean writes(List<Op> ops, Op op, int map, int key) {
        return (op.kind < 3 || op.kind == 5) && op.target == map && op.slot == key && fits(ops, op);
    }

    private static List<Op> entriesOf(List<Op> ops, int map, int key) {
        return ops.stream()
                .filter(o -> o.kind != 5 && writes(ops, o, map, key))
                .filter(o -> ops.stream().noneMatch(w -> writes(ops, w, map, key) && pastOf(ops, w).contains(o.id)))
                .sorted(Comparator.comparingInt(Op::id)).toList();
    }

    private static List<Op> elementsOf(List<Op> ops, int list) {
        List<Op> elements = new ArrayList<>();
        follow(ops, list, 0, elements);
        elements.removeIf(e -> ops.stream().anyMatch(o -> o.kind == 4 && o.target == e.id && fits(ops, o)));
        return elements;
    }

    private static void follow(List<Op> ops, int list, int slot, List<Op> elements) {
        ops.stream().filter(o -> o.kind == 3 && o.target == list && o.slot == slot && fits(ops, o))
                .sorted(Comparator.comparingInt(Op::id).reversed())
                .forEach(o -> {
                    elements.add(o);
                    follow(ops, list, o.id, elements);
                });
    }

    private static int pick(List<Op> found, int k) {
        if (k == -1) {
            return found.size();
        }
        return in(k, 0, found.size() - 1) ? found.get(k).id : -1;
    }

    int entry(int r, int m, int key, int k) {
        if (noReplica(r) || m != 0 && !isKind(applied.get(r), m, 1) || !in(key, 0, 3)) {
            return -1;
        }
        return pick(entriesOf(applied.get(r), m, key), k);
    }

    int element(int r, int l, int k) {
        if (noReplica(r) || !isKind(applied.get(r), l, 2)) {
            return -1;
        }
        return pick(elementsOf(applied.get(r), l), k);
    }

    int value(int r, int id) {
        Op op = noReplica(r) ? null : find(applied.get(r), id);
        return op == null ? -1 : op.value;
    }

    int depth(int r, int id) {
        return noReplica(r) ? -1 : depthBelow(applied.get(r), 0, 0, id);
    }

    /** Looks for the id from a map downward, so not the way that the program takes. */
    private static int depthBelow(List<Op> ops, int map, int depth, int id) {
        if (map == id) {
            return depth;
        }
        for (int key = 0; key < 4; key++) {
            for (Op e : entriesOf(ops, map, key)) {
                if (e.id == id) {
                    return depth + 1;
                }
                if (e.kind == 2 && elementsOf(ops, e.id).stream().anyMatch(o -> o.id == id)) {
                    return depth + 2;
                }
                int below = e.kind == 1 ? depthBelow(ops, e.id, depth + 1, id) : -1;
                if (below != -1) {
                    return below;
                }
            }
        }
        return -1;
    }

    int sum(int r) {
        return noReplica(r) ? 0 : sumOf(applied.get(r), 0);
    }

    private static int sumOf(List<Op> ops, int map) {
        int s = 7;
        for (int key = 0; key < 4; key++) {
            for (Op e : entriesOf(ops, map, key)) {
                s = 31 * s + 4 * e.id + key;
                int v = e.value;
                if (e.kind == 1) {
                    v = sumOf(ops, e.id);
                } else if (e.kind == 2) {
                    v = 11;
                    for (Op o : elementsOf(ops, e.id)) {
                        v = 31 * v + 128 * o.id + o.value;
                    }
                }
                s = 31 * s + v;
            }
        }
        return s;
    }

    boolean level(int a, int b) {
        return !noReplica(a) && !noReplica(b) && Set.copyOf(applied.get(a)).equals(Set.copyOf(applied.get(b)));
    }
}

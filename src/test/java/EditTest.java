/** Promise 2: edit. */
public final class EditTest {
    private static final Checks CHECKS = new Checks("EditTest");

    public static void main(String[] args) {
        everyKindIsIssued();
        countIsOneWhenNoneAreApplied();
        countGoesByWhatIsApplied();
        beforeIsHeadsAndNamed();
        mapsAndListsThatDoNotFitAreTargets();
        wrongArgumentsAreNone();
        wrongNumbersAreNoneForEveryKind();
        slotOfAnInsertMustBeAnElementOfItsList();
        sixteenAreFull();
        sixteenthIsIssued();
        seventhBeforeIsFull();
        namedHeadsCountOnce();
        namedOnesCountBesideTheHeads();
        countOverFortyIsFull();
        noneIsNamedAheadOfFull();
        itIsAppliedAtOnce();
        editSettles();
        sixteenthEditSettles();
        CHECKS.end();
    }

    private static void everyKindIsIssued() {
        ReplicaDocument x = new ReplicaDocument();
        CHECKS.due("PUT", x.edit(2, 0, 0, 3, 99), 6);
        CHECKS.due("MAP", x.edit(2, 1, 0, 0, 0), 10);
        CHECKS.due("LIST", x.edit(2, 2, 10, 3, 0), 14);
        CHECKS.due("INSERT", x.edit(2, 3, 14, 0, 0), 18);
        CHECKS.due("INSERT behind", x.edit(2, 3, 14, 18, 99), 22);
        CHECKS.due("ERASE", x.edit(2, 4, 18, 0, 0), 26);
        CHECKS.due("INSERT behind one that is gone", x.edit(2, 3, 14, 18, 1), 30);
        CHECKS.due("ERASE of one that is gone", x.edit(2, 4, 18, 0, 0), 34);
        CHECKS.due("CLEAR", x.edit(2, 5, 10, 3, 0), 38);
        CHECKS.due("LIST behind its CLEAR stays a target", x.edit(2, 3, 14, 0, 5), 42);
        CHECKS.due("held", x.held(2), 10);
        CHECKS.due("applied at once", x.log(2, -1), 10);
        CHECKS.due("other replicas hold nothing", x.held(0) + x.held(1), 0);
    }

    /** "1 when there are none": what waits is not applied. */
    private static void countIsOneWhenNoneAreApplied() {
        for (int r = 0; r < 3; r++) {
            ReplicaDocument x = new ReplicaDocument();
            CHECKS.due("the first of " + r, x.edit(r, 0, 0, 0, 0), 4 + r);
            x = new ReplicaDocument();
            Checks.layWaiting(x, r, (r + 1) % 3, 15);
            CHECKS.due("the first of " + r + " where fifteen wait", x.edit(r, 0, 0, 0, 0), 4 + r);
            CHECKS.due("without BEFORE", x.emit(r, 4 + r), 6);
        }
    }

    private static void countGoesByWhatIsApplied() {
        ReplicaDocument x = new ReplicaDocument();
        CHECKS.due("waits", Checks.receive(x, 0, 81, 0, 0, 0, 1, 1, 77), 0);
        CHECKS.due("what waits is not counted", x.edit(0, 0, 0, 0, 1), 4);
        CHECKS.due("applied", Checks.receive(x, 0, 46, 0, 0, 0, 1, 0), 1);
        CHECKS.due("greatest count, not the last", Checks.receive(x, 0, 9, 0, 0, 0, 1, 0), 1);
        CHECKS.due("one more than 11", x.edit(0, 0, 0, 0, 1), 48);
    }

    private static void beforeIsHeadsAndNamed() {
        ReplicaDocument x = new ReplicaDocument();
        x.edit(0, 2, 0, 0, 0);
        wireIs(x, x.emit(0, 4), 4, 2, 0, 0, 0, 0);
        x.edit(0, 3, 4, 0, 1);
        wireIs(x, x.emit(0, 8), 8, 3, 4, 0, 1, 1, 4);
        x.edit(0, 0, 0, 1, 1);
        x.edit(0, 3, 4, 8, 2);
        wireIs(x, x.emit(0, 16), 16, 3, 4, 8, 2, 3, 4, 8, 12);
        x.edit(0, 4, 8, 0, 0);
        wireIs(x, x.emit(0, 20), 20, 4, 8, 0, 0, 2, 8, 16);
        x.edit(0, 3, 4, 0, 9);
        wireIs(x, x.emit(0, 24), 24, 3, 4, 0, 9, 2, 4, 20);
        x.edit(0, 5, 0, 0, 0);
        wireIs(x, x.emit(0, 28), 28, 5, 0, 0, 0, 1, 24);
        CHECKS.due("one that is no head then", Checks.receive(x, 0, 113, 0, 0, 2, 3, 0), 1);
        CHECKS.due("a lesser id, applied later", Checks.receive(x, 0, 5, 0, 0, 2, 3, 0), 1);
        x.edit(0, 0, 0, 3, 3);
        wireIs(x, x.emit(0, 116), 116, 0, 0, 3, 3, 3, 5, 28, 113);
        x.edit(0, 3, 4, 24, 3);
        wireIs(x, x.emit(0, 120), 120, 3, 4, 24, 3, 3, 4, 24, 116);
    }

    private static void wireIs(ReplicaDocument x, int count, int... bytes) {
        CHECKS.due("number of bytes", count, bytes.length);
        for (int k = 0; k < bytes.length; k++) {
            CHECKS.due("byte " + k + " of operation " + bytes[0], x.wire(k), bytes[k]);
        }
    }

    private static void mapsAndListsThatDoNotFitAreTargets() {
        ReplicaDocument x = new ReplicaDocument();
        x.edit(0, 0, 0, 0, 1);
        CHECKS.due("MAP in a PUT", Checks.receive(x, 0, 9, 1, 4, 0, 0, 1, 4), 1);
        CHECKS.due("LIST in a PUT", Checks.receive(x, 0, 13, 2, 4, 0, 0, 1, 4), 1);
        CHECKS.due("PUT in that MAP", x.edit(0, 0, 9, 0, 1), 16);
        CHECKS.due("INSERT in that LIST", x.edit(0, 3, 13, 0, 1), 20);
        CHECKS.due("INSERT in a PUT", Checks.receive(x, 0, 25, 3, 4, 0, 0, 1, 4), 1);
        CHECKS.due("ERASE of an INSERT that does not fit", x.edit(0, 4, 25, 0, 0), -1);
        CHECKS.due("INSERT into a PUT behind it", x.edit(0, 3, 4, 25, 0), -1);
        CHECKS.due("INSERT behind it", x.edit(0, 3, 13, 25, 0), -1);
    }

    private static void wrongArgumentsAreNone() {
        ReplicaDocument x = new ReplicaDocument();
        x.edit(0, 1, 0, 0, 0);
        x.edit(0, 2, 0, 1, 0);
        x.edit(0, 3, 8, 0, 7);
        Checks.receive(x, 0, 81, 1, 0, 0, 0, 1, 77);
        Checks.receive(x, 0, 85, 2, 0, 0, 0, 1, 77);
        String told = Checks.tell(x);
        int[] noReplicas = {-1, 3, 4, Integer.MIN_VALUE, Integer.MAX_VALUE};
        for (int r : noReplicas) {
            CHECKS.due("edit(" + r + ", ..)", x.edit(r, 0, 0, 0, 0), -1);
        }
        int[] noKinds = {-1, 6, 256, Integer.MIN_VALUE, Integer.MAX_VALUE};
        int[] targets = {0, 4, 8, 12};
        for (int kind : noKinds) {
            for (int target : targets) {
                CHECKS.due("kind " + kind + " on " + target, x.edit(0, kind, target, 0, 0), -1);
            }
        }
        int[] noMaps = {-1, -4, 1, 3, 5, 7, 8, 12, 81, 260, Integer.MIN_VALUE, Integer.MAX_VALUE};
        for (int target : noMaps) {
            CHECKS.due("PUT to " + target, x.edit(0, 0, target, 0, 0), -1);
            CHECKS.due("MAP to " + target, x.edit(0, 1, target, 0, 0), -1);
            CHECKS.due("LIST to " + target, x.edit(0, 2, target, 0, 0), -1);
            CHECKS.due("CLEAR to " + target, x.edit(0, 5, target, 0, 0), -1);
        }
        int[] noLists = {-1, 0, 4, 5, 12, 85, 264, Integer.MIN_VALUE, Integer.MAX_VALUE};
        for (int target : noLists) {
            CHECKS.due("INSERT to " + target, x.edit(0, 3, target, 0, 0), -1);
            CHECKS.due("ERASE of " + target, x.edit(0, 4, target == 12 ? 8 : target, 0, 0), -1);
        }
        CHECKS.due("another replica has applied none of it", x.edit(1, 0, 4, 0, 0), -1);
        CHECKS.due("nothing changed", Checks.tell(x), told);
    }

    private static void wrongNumbersAreNoneForEveryKind() {
        ReplicaDocument x = new ReplicaDocument();
        x.edit(0, 2, 0, 0, 0);
        x.edit(0, 3, 4, 0, 0);
        int[] targets = {0, 0, 0, 4, 8, 0};
        int[] numbers = {-1, 1, 3, 4, 99, 100, 256, Integer.MIN_VALUE, Integer.MAX_VALUE};
        for (int kind = 0; kind < 6; kind++) {
            for (int number : numbers) {
                boolean slotIsKey = kind < 3 || kind == 5;
                boolean slotIsGood = slotIsKey && number >= 0 && number < 4;
                boolean valueIsGood = (kind == 0 || kind == 3) && number >= 0 && number <= 99;
                if (!slotIsGood) {
                    CHECKS.due("kind " + kind + ", slot " + number, x.edit(0, kind, targets[kind], number, 0), -1);
                }
                if (!valueIsGood) {
                    CHECKS.due("kind " + kind + ", value " + number, x.edit(0, kind, targets[kind], 0, number), -1);
                }
            }
        }
        CHECKS.due("held", x.held(0), 2);
    }

    private static void slotOfAnInsertMustBeAnElementOfItsList() {
        ReplicaDocument x = new ReplicaDocument();
        x.edit(0, 2, 0, 0, 0);
        x.edit(0, 2, 0, 1, 0);
        x.edit(0, 3, 4, 0, 0);
        x.edit(0, 3, 8, 0, 0);
        CHECKS.due("behind an element of another list", x.edit(0, 3, 8, 12, 0), -1);
        CHECKS.due("behind an element of a later list", x.edit(0, 3, 4, 16, 0), -1);
        CHECKS.due("behind the list itself", x.edit(0, 3, 4, 4, 0), -1);
        CHECKS.due("behind nothing that is known", x.edit(0, 3, 4, 20, 0), -1);
        CHECKS.due("behind a number that is no id", x.edit(0, 3, 4, -12, 0), -1);
        CHECKS.due("behind its own element", x.edit(0, 3, 4, 12, 0), 20);
        CHECKS.due("behind the other's own element", x.edit(0, 3, 8, 16, 0), 24);
    }

    private static void sixteenAreFull() {
        ReplicaDocument x = new ReplicaDocument();
        for (int k = 0; k < 8; k++) {
            CHECKS.due("waits", Checks.receive(x, 1, 80 + 4 * k, 0, 0, 0, 0, 1, 76), 0);
        }
        for (int k = 1; k <= 8; k++) {
            CHECKS.due("edit", x.edit(1, 0, 0, 0, 0), 4 * k + 1);
        }
        String told = Checks.tell(x);
        CHECKS.due("the seventeenth", x.edit(1, 0, 0, 0, 0), -7);
        CHECKS.due("nothing changed", Checks.tell(x), told);
        CHECKS.due("another replica has room", x.edit(0, 0, 0, 0, 0), 4);
    }

    private static void sixteenthIsIssued() {
        ReplicaDocument x = new ReplicaDocument();
        for (int count = 1; count <= 16; count++) {
            CHECKS.due("edit " + count, x.edit(2, 0, 0, 0, 0), 4 * count + 2);
        }
        CHECKS.due("the seventeenth", x.edit(2, 0, 0, 0, 0), -7);
        x = new ReplicaDocument();
        Checks.layWaiting(x, 2, 0, 15);
        CHECKS.due("behind fifteen that wait", x.edit(2, 0, 0, 0, 0), 6);
        CHECKS.due("full then", x.edit(2, 0, 0, 0, 0), -7);
        x = new ReplicaDocument();
        Checks.layWaiting(x, 2, 0, 16);
        CHECKS.due("sixteen that wait", x.edit(2, 0, 0, 0, 0), -7);
    }

    private static void seventhBeforeIsFull() {
        ReplicaDocument x = new ReplicaDocument();
        x.edit(0, 1, 0, 0, 0);
        x.edit(0, 0, 0, 1, 0);
        for (int k = 1; k <= 5; k++) {
            CHECKS.due("a head more", Checks.receive(x, 0, 4 * k + 1, 0, 0, 0, 0, 0), 1);
        }
        CHECKS.due("heads", x.heads(0), 6);
        String told = Checks.tell(x);
        CHECKS.due("six heads and the map", x.edit(0, 0, 4, 0, 0), -7);
        CHECKS.due("nothing changed", Checks.tell(x), told);
        CHECKS.due("six heads", x.edit(0, 0, 0, 0, 0), 24);
        CHECKS.due("their number", x.emit(0, 24), 12);
        for (int k = 1; k <= 6; k++) {
            CHECKS.due("a head more", Checks.receive(x, 0, 4 * k + 2, 0, 0, 0, 0, 0), 1);
        }
        CHECKS.due("heads", x.heads(0), 7);
        CHECKS.due("seven heads", x.edit(0, 0, 0, 0, 0), -7);
    }

    /** BEFORE is a set: what is named and a head stands in it once. */
    private static void namedHeadsCountOnce() {
        ReplicaDocument x = new ReplicaDocument();
        Checks.layHeads(x, 0, 1, 5);
        CHECKS.due("a MAP as the sixth head", Checks.receive(x, 0, 26, 1, 0, 0, 0, 0), 1);
        CHECKS.due("heads", x.heads(0), 6);
        CHECKS.due("PUT into that", x.edit(0, 0, 26, 0, 0), 28);
        CHECKS.due("emit", x.emit(0, 28), 12);
        int[] bytes = {28, 0, 26, 0, 0, 6, 5, 9, 13, 17, 21, 26};
        for (int k = 0; k < bytes.length; k++) {
            CHECKS.due("byte " + k, x.wire(k), bytes[k]);
        }
    }

    private static void namedOnesCountBesideTheHeads() {
        for (int others = 3; others <= 5; others++) {
            ReplicaDocument x = new ReplicaDocument();
            x.edit(0, 2, 0, 0, 0);
            x.edit(0, 3, 4, 0, 1);
            Checks.layHeads(x, 0, 1, others);
            CHECKS.due("list and a head as slot, " + others + " heads more", x.edit(0, 3, 4, 8, 1),
                    others > 4 ? -7 : 4 * Math.max(3, others + 1));
        }
        for (int others = 2; others <= 5; others++) {
            ReplicaDocument x = new ReplicaDocument();
            x.edit(0, 2, 0, 0, 0);
            x.edit(0, 3, 4, 0, 1);
            x.edit(0, 0, 0, 1, 1);
            Checks.layHeads(x, 0, 1, others);
            CHECKS.due("list and slot beside a head, " + others + " heads more", x.edit(0, 3, 4, 8, 1),
                    others > 3 ? -7 : 16);
            CHECKS.due("the slot at the front is not named", x.edit(0, 3, 4, 0, 1),
                    others > 4 ? -7 : 20);
        }
    }

    private static void countOverFortyIsFull() {
        ReplicaDocument x = new ReplicaDocument();
        CHECKS.due("count 39", Checks.receive(x, 0, 157, 0, 0, 0, 0, 0), 1);
        CHECKS.due("count 40", x.edit(0, 0, 0, 0, 0), 160);
        CHECKS.due("count 41", x.edit(0, 0, 0, 0, 0), -7);
        CHECKS.due("held", x.held(0), 2);
        for (int owner = 1; owner < 3; owner++) {
            x = new ReplicaDocument();
            CHECKS.due("count 40 of " + owner + " waits", Checks.receive(x, 0, 160 + owner, 0, 0, 0, 0, 1, 6), 0);
            CHECKS.due("which does not matter", x.edit(0, 0, 0, 0, 0), 4);
            CHECKS.due("until it is applied", Checks.receive(x, 0, 6, 0, 0, 0, 0, 0), 2);
            CHECKS.due("count 41", x.edit(0, 0, 0, 0, 0), -7);
            CHECKS.due("another replica goes on", x.edit(1, 0, 0, 0, 0), 5);
        }
    }

    private static void noneIsNamedAheadOfFull() {
        ReplicaDocument x = new ReplicaDocument();
        for (int k = 0; k < 16; k++) {
            x.edit(0, 0, 0, 0, 0);
        }
        CHECKS.due("full and a wrong value", x.edit(0, 0, 0, 0, 100), -1);
        CHECKS.due("full and no map", x.edit(0, 0, 4, 0, 0), -1);
        CHECKS.due("full", x.edit(0, 0, 0, 0, 0), -7);
    }

    /** "It is applied at once": ahead of whatever the settling brings. */
    private static void itIsAppliedAtOnce() {
        ReplicaDocument x = new ReplicaDocument();
        CHECKS.due("waits", Checks.receive(x, 2, 9, 0, 0, 0, 2, 1, 6), 0);
        CHECKS.due("waits, of a lesser id", Checks.receive(x, 2, 8, 0, 0, 0, 2, 1, 6), 0);
        CHECKS.due("heads ahead", x.heads(2), 0);
        CHECKS.due("edit", x.edit(2, 1, 0, 0, 0), 6);
        CHECKS.due("log 0", x.log(2, 0), 6);
        CHECKS.due("log 1", x.log(2, 1), 8);
        CHECKS.due("log 2", x.log(2, 2), 9);
        CHECKS.due("heads", x.heads(2), 2);
        CHECKS.due("what waited came behind and replaced it", x.entry(2, 0, 0, -1), 2);
        CHECKS.due("its BEFORE are the heads of then", x.emit(2, 6), 6);
    }

    private static void editSettles() {
        ReplicaDocument x = new ReplicaDocument();
        CHECKS.due("waits for 4", Checks.receive(x, 0, 13, 0, 0, 0, 2, 2, 4, 10), 0);
        CHECKS.due("waits for 4 too", Checks.receive(x, 0, 10, 0, 0, 0, 2, 1, 4), 0);
        CHECKS.due("edit", x.edit(0, 0, 0, 0, 1), 4);
        CHECKS.due("all applied", x.log(0, -1), 3);
        CHECKS.due("log 1", x.log(0, 1), 10);
        CHECKS.due("log 2", x.log(0, 2), 13);
        CHECKS.due("the next count", x.edit(0, 0, 0, 0, 1), 16);
    }

    private static void sixteenthEditSettles() {
        ReplicaDocument x = new ReplicaDocument();
        for (int count = 16; count > 1; count--) {
            int before = count == 2 ? 4 : 4 * count - 3;
            CHECKS.due("waits", Checks.receive(x, 0, 4 * count + 1, 0, 0, 0, 0, 1, before), 0);
        }
        CHECKS.due("the sixteenth lets fifteen", x.edit(0, 0, 0, 0, 0), 4);
        CHECKS.due("log", x.log(0, -1), 16);
        CHECKS.due("log 15", x.log(0, 15), 65);
        CHECKS.due("full", x.edit(0, 0, 0, 0, 0), -7);
    }
}

/** Promises 12, 13, 15 and 16: entry, element, depth, sum. */
public final class ContentsTest {
    private static final Checks CHECKS = new Checks("ContentsTest");
    private static final int[] NO_REPLICAS = {-1, 3, Integer.MIN_VALUE, Integer.MAX_VALUE};

    public static void main(String[] args) {
        entriesStandSideBySide();
        laterWritesHideEarlierOnes();
        onlyWritesOfTheSamePlaceHide();
        whatDoesNotFitHidesNothing();
        whatWaitsIsNotInTheDocument();
        sixteenEntriesAtOneKey();
        clearHidesWhatItKnowsAlone();
        entryRefuses();
        elementsAreInTreeOrder();
        fifteenElements();
        elementsOfTwoReplicasAreByDescendingId();
        goneElementsKeepTheirPlace();
        goneElementsAreNotCounted();
        whatDoesNotFitErasesNothing();
        elementRefuses();
        depthGoesUpToTheRoot();
        depthIsLost();
        severalEntriesHaveADepth();
        sumOfMapsAndLists();
        sumWraps();
        sumLeavesOutWhatHasNoDepth();
        sumIsTheSameInEveryOrder();
        noReplica();
        CHECKS.end();
    }

    private static void entriesAre(ReplicaDocument x, int r, int m, int key, int... ids) {
        CHECKS.due("entries of " + m + " at " + key, x.entry(r, m, key, -1), ids.length);
        for (int k = 0; k < ids.length; k++) {
            CHECKS.due("entry " + k + " of " + m + " at " + key, x.entry(r, m, key, k), ids[k]);
        }
        CHECKS.due("entry behind the last", x.entry(r, m, key, ids.length), -1);
    }

    private static void elementsAre(ReplicaDocument x, int r, int l, int... ids) {
        CHECKS.due("elements of " + l, x.element(r, l, -1), ids.length);
        for (int k = 0; k < ids.length; k++) {
            CHECKS.due("element " + k + " of " + l, x.element(r, l, k), ids[k]);
        }
        CHECKS.due("element behind the last", x.element(r, l, ids.length), -1);
    }

    private static void entriesStandSideBySide() {
        ReplicaDocument x = new ReplicaDocument();
        Checks.receive(x, 0, 38, 2, 0, 3, 0, 0);
        Checks.receive(x, 0, 9, 0, 0, 3, 5, 0);
        Checks.receive(x, 0, 5, 1, 0, 3, 0, 0);
        Checks.receive(x, 0, 6, 5, 0, 3, 0, 0);
        Checks.receive(x, 0, 10, 0, 0, 2, 5, 0);
        entriesAre(x, 0, 0, 3, 5, 9, 38);
        entriesAre(x, 0, 0, 2, 10);
        entriesAre(x, 0, 5, 3);
    }

    private static void laterWritesHideEarlierOnes() {
        for (int kind = 0; kind < 6; kind++) {
            if (kind == 3 || kind == 4) {
                continue;
            }
            ReplicaDocument x = new ReplicaDocument();
            x.edit(0, 0, 0, 1, 5);
            x.edit(0, 1, 0, 2, 0);
            x.edit(0, 2, 0, 3, 0);
            x.edit(0, 0, 0, 0, 7);
            x.edit(0, kind, 0, 1, 0);
            x.edit(0, kind, 0, 2, 0);
            x.edit(0, kind, 0, 3, 0);
            entriesAre(x, 0, 0, 0, 16);
            entriesAre(x, 0, 0, 1, kind == 5 ? new int[0] : new int[] {20});
            entriesAre(x, 0, 0, 2, kind == 5 ? new int[0] : new int[] {24});
            entriesAre(x, 0, 0, 3, kind == 5 ? new int[0] : new int[] {28});
        }
    }

    private static void onlyWritesOfTheSamePlaceHide() {
        ReplicaDocument x = new ReplicaDocument();
        x.edit(0, 1, 0, 0, 0);
        x.edit(0, 1, 0, 1, 0);
        x.edit(0, 0, 4, 2, 1);
        x.edit(0, 0, 8, 2, 1);
        x.edit(0, 5, 8, 3, 0);
        entriesAre(x, 0, 4, 2, 12);
        entriesAre(x, 0, 8, 2, 16);
        entriesAre(x, 0, 0, 2);
        x.edit(0, 2, 0, 2, 0);
        x.edit(0, 3, 24, 0, 1);
        x.edit(0, 4, 28, 0, 0);
        entriesAre(x, 0, 0, 0, 4);
        entriesAre(x, 0, 0, 2, 24);
        entriesAre(x, 0, 4, 2, 12);
    }

    private static void whatDoesNotFitHidesNothing() {
        ReplicaDocument x = new ReplicaDocument();
        x.edit(0, 0, 0, 0, 1);
        CHECKS.due("PUT in a PUT", Checks.receive(x, 0, 9, 0, 4, 0, 0, 1, 4), 1);
        CHECKS.due("ERASE of a PUT", Checks.receive(x, 0, 13, 4, 9, 0, 0, 1, 9), 1);
        CHECKS.due("MAP in a PUT", Checks.receive(x, 0, 17, 1, 4, 0, 0, 1, 4), 1);
        CHECKS.due("PUT in that MAP", Checks.receive(x, 0, 21, 0, 17, 0, 3, 1, 17), 1);
        CHECKS.due("no map", x.entry(0, 4, 0, -1), -1);
        entriesAre(x, 0, 0, 0, 4);
        entriesAre(x, 0, 17, 0, 21);
        CHECKS.due("depth of what does not fit", x.depth(0, 9), -1);
        CHECKS.due("depth of a MAP that does not fit", x.depth(0, 17), -1);
        CHECKS.due("depth of what is in it", x.depth(0, 21), -1);
        CHECKS.due("sum", x.sum(0), 31 * (31 * 7 + 16) + 1);
    }

    private static void whatWaitsIsNotInTheDocument() {
        ReplicaDocument x = new ReplicaDocument();
        x.edit(0, 2, 0, 0, 0);
        x.edit(0, 3, 4, 0, 5);
        int sum = x.sum(0);
        CHECKS.due("CLEAR", Checks.receive(x, 0, 81, 5, 0, 0, 0, 2, 4, 77), 0);
        CHECKS.due("PUT", Checks.receive(x, 0, 85, 0, 0, 0, 6, 2, 4, 77), 0);
        CHECKS.due("INSERT", Checks.receive(x, 0, 89, 3, 4, 8, 6, 3, 4, 8, 77), 0);
        CHECKS.due("ERASE", Checks.receive(x, 0, 93, 4, 8, 0, 0, 2, 8, 77), 0);
        entriesAre(x, 0, 0, 0, 4);
        elementsAre(x, 0, 4, 8);
        CHECKS.due("depth of the list", x.depth(0, 4), 1);
        CHECKS.due("depth of the element", x.depth(0, 8), 2);
        CHECKS.due("depth of what waits", x.depth(0, 85), -1);
        CHECKS.due("sum", x.sum(0), sum);
    }

    private static void sixteenEntriesAtOneKey() {
        ReplicaDocument x = new ReplicaDocument();
        for (int count = 16; count > 0; count--) {
            CHECKS.due("PUT", Checks.receive(x, 0, 4 * count + 1, 0, 0, 3, 0, 0), 1);
        }
        CHECKS.due("entry(0, 0, 3, -1)", x.entry(0, 0, 3, -1), 16);
        for (int k = 0; k < 16; k++) {
            CHECKS.due("entry " + k, x.entry(0, 0, 3, k), 4 * (k + 1) + 1);
        }
        CHECKS.due("entry 16", x.entry(0, 0, 3, 16), -1);
        CHECKS.due("entry(0, 0, 2, -1)", x.entry(0, 0, 2, -1), 0);
    }

    /** "Not in the past of another": nobody knew of the other. */
    private static void clearHidesWhatItKnowsAlone() {
        ReplicaDocument x = new ReplicaDocument();
        Checks.receive(x, 0, 5, 0, 0, 0, 1, 0);
        Checks.receive(x, 0, 9, 1, 0, 0, 0, 0);
        CHECKS.due("CLEAR that knows 5", Checks.receive(x, 0, 14, 5, 0, 0, 0, 1, 5), 1);
        entriesAre(x, 0, 0, 0, 9);
        CHECKS.due("CLEAR that knows nothing", Checks.receive(x, 0, 18, 5, 0, 0, 0, 0), 1);
        entriesAre(x, 0, 0, 0, 9);
        CHECKS.due("PUT that knows the first CLEAR", Checks.receive(x, 0, 22, 0, 0, 0, 2, 1, 14), 1);
        entriesAre(x, 0, 0, 0, 9, 22);
        CHECKS.due("CLEAR that knows 9 by way of another key", Checks.receive(x, 0, 26, 0, 0, 1, 2, 1, 9), 1);
        CHECKS.due("and 26", Checks.receive(x, 0, 30, 5, 0, 0, 0, 1, 26), 1);
        entriesAre(x, 0, 0, 0, 22);
        entriesAre(x, 0, 0, 1, 26);
    }

    private static void entryRefuses() {
        ReplicaDocument x = new ReplicaDocument();
        x.edit(0, 1, 0, 0, 0);
        x.edit(0, 2, 0, 1, 0);
        x.edit(0, 0, 4, 0, 0);
        Checks.receive(x, 0, 81, 1, 0, 0, 0, 1, 77);
        int[] noMaps = {-1, 1, 5, 8, 12, 81, 256, 260, Integer.MIN_VALUE, Integer.MAX_VALUE};
        for (int m : noMaps) {
            CHECKS.due("entry(0, " + m + ", 0, -1)", x.entry(0, m, 0, -1), -1);
        }
        int[] noKeys = {-1, 4, 256, Integer.MIN_VALUE, Integer.MAX_VALUE};
        for (int key : noKeys) {
            CHECKS.due("entry(0, 0, " + key + ", -1)", x.entry(0, 0, key, -1), -1);
        }
        int[] noPlaces = {-2, 1, 16, Integer.MIN_VALUE, Integer.MAX_VALUE};
        for (int k : noPlaces) {
            CHECKS.due("entry(0, 4, 0, " + k + ")", x.entry(0, 4, 0, k), -1);
        }
        CHECKS.due("a map that another replica has", x.entry(1, 4, 0, -1), -1);
        CHECKS.due("the root of another replica", x.entry(1, 0, 0, -1), 0);
    }

    private static void elementsAreInTreeOrder() {
        ReplicaDocument x = new ReplicaDocument();
        x.edit(0, 2, 0, 0, 0);
        x.edit(0, 3, 4, 0, 1);
        x.edit(0, 3, 4, 8, 2);
        x.edit(0, 3, 4, 12, 3);
        x.edit(0, 3, 4, 8, 4);
        x.edit(0, 3, 4, 0, 5);
        x.edit(0, 3, 4, 20, 6);
        x.edit(0, 2, 0, 1, 0);
        x.edit(0, 3, 32, 0, 7);
        elementsAre(x, 0, 4, 24, 8, 20, 28, 12, 16);
        elementsAre(x, 0, 32, 36);
        CHECKS.due("applied late, a lesser id", Checks.receive(x, 0, 13, 3, 4, 8, 9, 2, 4, 8), 1);
        CHECKS.due("and one at the front", Checks.receive(x, 0, 9, 3, 4, 0, 9, 1, 4), 1);
        elementsAre(x, 0, 4, 24, 9, 8, 20, 28, 13, 12, 16);
    }

    private static void fifteenElements() {
        ReplicaDocument x = new ReplicaDocument();
        x.edit(0, 2, 0, 0, 0);
        for (int k = 0; k < 15; k++) {
            CHECKS.due("elements ahead of INSERT " + k, x.element(0, 4, -1), k);
            x.edit(0, 3, 4, k % 2 == 0 ? 0 : 4 * (k + 1), k);
        }
        elementsAre(x, 0, 4, 64, 56, 60, 48, 52, 40, 44, 32, 36, 24, 28, 16, 20, 8, 12);
    }

    /** "Those with slot 0 come by descending id", and the followers of one element too. */
    private static void elementsOfTwoReplicasAreByDescendingId() {
        ReplicaDocument x = new ReplicaDocument();
        x.edit(0, 2, 0, 0, 0);
        Checks.send(x, 0, 4, 1);
        Checks.send(x, 0, 4, 2);
        for (int r = 2; r >= 0; r--) {
            CHECKS.due("at the front", x.edit(r, 3, 4, 0, r), 8 + r);
            CHECKS.due("behind it", x.edit(r, 3, 4, 8 + r, r), 12 + r);
        }
        Checks.send(x, 1, 9, 0);
        Checks.send(x, 2, 14, 0);
        Checks.send(x, 2, 10, 0);
        Checks.send(x, 1, 13, 0);
        elementsAre(x, 0, 4, 10, 14, 9, 13, 8, 12);
        CHECKS.due("128 and 124 behind one", Checks.receive(x, 0, 129, 3, 4, 8, 0, 2, 4, 8), 1);
        CHECKS.due("128 and 124 behind one", Checks.receive(x, 0, 125, 3, 4, 8, 0, 2, 4, 8), 1);
        elementsAre(x, 0, 4, 10, 14, 9, 13, 8, 129, 125, 12);
    }

    /** "It keeps its place, but isn't counted or shown." */
    private static void goneElementsAreNotCounted() {
        ReplicaDocument x = new ReplicaDocument();
        x.edit(0, 2, 0, 0, 0);
        x.edit(0, 3, 4, 0, 1);
        CHECKS.due("elements", x.element(0, 4, -1), 1);
        x.edit(0, 4, 8, 0, 0);
        elementsAre(x, 0, 4);
        CHECKS.due("its value stays", x.value(0, 8), 1);
        CHECKS.due("erased by a second one", x.edit(0, 4, 8, 0, 0), 16);
        elementsAre(x, 0, 4);
        CHECKS.due("behind it", x.edit(0, 3, 4, 8, 2), 20);
        CHECKS.due("at the front", x.edit(0, 3, 4, 0, 3), 24);
        elementsAre(x, 0, 4, 24, 20);
        CHECKS.due("sum", x.sum(0), 31 * (31 * 7 + 16) + 31 * (31 * 11 + 128 * 24 + 3) + 128 * 20 + 2);
        CHECKS.due("depth behind one that is gone", x.depth(0, 20), 2);
    }

    private static void goneElementsKeepTheirPlace() {
        ReplicaDocument x = new ReplicaDocument();
        x.edit(0, 2, 0, 0, 0);
        x.edit(0, 3, 4, 0, 1);
        x.edit(0, 3, 4, 8, 2);
        x.edit(0, 3, 4, 12, 3);
        x.edit(0, 4, 12, 0, 0);
        elementsAre(x, 0, 4, 8, 16);
        CHECKS.due("depth of one that is gone", x.depth(0, 12), -1);
        x.edit(0, 3, 4, 12, 4);
        elementsAre(x, 0, 4, 8, 24, 16);
        x.edit(0, 4, 8, 0, 0);
        x.edit(0, 4, 16, 0, 0);
        x.edit(0, 4, 24, 0, 0);
        elementsAre(x, 0, 4);
    }

    private static void whatDoesNotFitErasesNothing() {
        ReplicaDocument x = new ReplicaDocument();
        x.edit(0, 2, 0, 0, 0);
        x.edit(0, 2, 0, 1, 0);
        x.edit(0, 3, 4, 0, 1);
        CHECKS.due("behind an element of another list", Checks.receive(x, 0, 17, 3, 8, 12, 0, 2, 8, 12), 1);
        CHECKS.due("behind one that does not fit", Checks.receive(x, 0, 21, 3, 8, 17, 0, 2, 8, 17), 1);
        CHECKS.due("ERASE of that", Checks.receive(x, 0, 25, 4, 21, 0, 0, 1, 21), 1);
        CHECKS.due("ERASE of a LIST", Checks.receive(x, 0, 29, 4, 4, 0, 0, 1, 4), 1);
        CHECKS.due("ERASE of an ERASE", Checks.receive(x, 0, 33, 4, 29, 0, 0, 1, 29), 1);
        CHECKS.due("INSERT behind a LIST", Checks.receive(x, 0, 37, 3, 4, 8, 0, 2, 4, 8), 1);
        CHECKS.due("INSERT into a list that is no list", Checks.receive(x, 0, 41, 3, 12, 0, 0, 1, 12), 1);
        CHECKS.due("an element is no list", x.element(0, 12, -1), -1);
        elementsAre(x, 0, 4, 12);
        elementsAre(x, 0, 8);
        CHECKS.due("depth of the list", x.depth(0, 4), 1);
        CHECKS.due("depth of what does not fit", x.depth(0, 17), -1);
        CHECKS.due("depth of what is behind it", x.depth(0, 21), -1);
        CHECKS.due("depth of an ERASE", x.depth(0, 25), -1);
    }

    private static void elementRefuses() {
        ReplicaDocument x = new ReplicaDocument();
        x.edit(0, 1, 0, 0, 0);
        x.edit(0, 2, 0, 1, 0);
        x.edit(0, 3, 8, 0, 0);
        Checks.receive(x, 0, 81, 2, 0, 0, 0, 1, 77);
        int[] noLists = {-1, 0, 1, 4, 5, 12, 81, 256, 264, Integer.MIN_VALUE, Integer.MAX_VALUE};
        for (int l : noLists) {
            CHECKS.due("element(0, " + l + ", -1)", x.element(0, l, -1), -1);
        }
        int[] noPlaces = {-2, 1, 16, Integer.MIN_VALUE, Integer.MAX_VALUE};
        for (int k : noPlaces) {
            CHECKS.due("element(0, 8, " + k + ")", x.element(0, 8, k), -1);
        }
        CHECKS.due("a list that another replica has", x.element(1, 8, -1), -1);
        Checks.receive(x, 0, 85, 2, 4, 0, 0, 1, 4);
        CHECKS.due("a list without elements", x.element(0, 85, -1), 0);
    }

    private static void depthGoesUpToTheRoot() {
        ReplicaDocument x = new ReplicaDocument();
        int map = 0;
        for (int k = 1; k <= 14; k++) {
            map = x.edit(1, 1, map, k % 4, 0);
            CHECKS.due("depth of map " + k, x.depth(1, map), k);
        }
        int list = x.edit(1, 2, map, 0, 0);
        int element = x.edit(1, 3, list, 0, 9);
        CHECKS.due("depth of the list", x.depth(1, list), 15);
        CHECKS.due("depth of the element", x.depth(1, element), 16);
        CHECKS.due("depth of the root", x.depth(1, 0), 0);
        int[] noIds = {-1, 1, 4, 160, 256, 261, Integer.MIN_VALUE, Integer.MAX_VALUE};
        for (int id : noIds) {
            CHECKS.due("depth(1, " + id + ")", x.depth(1, id), -1);
        }
    }

    private static void depthIsLost() {
        ReplicaDocument x = new ReplicaDocument();
        x.edit(0, 1, 0, 0, 0);
        x.edit(0, 1, 4, 0, 0);
        x.edit(0, 0, 8, 0, 9);
        x.edit(0, 2, 8, 1, 0);
        x.edit(0, 3, 16, 0, 9);
        CHECKS.due("depth of a PUT", x.depth(0, 12), 3);
        CHECKS.due("depth of an element", x.depth(0, 20), 4);
        x.edit(0, 0, 4, 0, 1);
        CHECKS.due("depth of the map above", x.depth(0, 4), 1);
        CHECKS.due("depth of the map that was replaced", x.depth(0, 8), -1);
        CHECKS.due("depth of a PUT in it", x.depth(0, 12), -1);
        CHECKS.due("depth of a list in it", x.depth(0, 16), -1);
        CHECKS.due("depth of an element in that", x.depth(0, 20), -1);
        CHECKS.due("depth of what replaced it", x.depth(0, 24), 2);
        entriesAre(x, 0, 8, 0, 12);
        elementsAre(x, 0, 16, 20);
        x.edit(0, 5, 4, 0, 0);
        CHECKS.due("depth of a PUT that was cleared", x.depth(0, 24), -1);
        CHECKS.due("depth of a CLEAR", x.depth(0, 28), -1);
        Checks.receive(x, 0, 81, 1, 0, 0, 0, 1, 77);
        CHECKS.due("depth of what waits", x.depth(0, 81), -1);
    }

    /** "Which is an entry of a map": each of several at one key is. */
    private static void severalEntriesHaveADepth() {
        ReplicaDocument x = new ReplicaDocument();
        Checks.receive(x, 0, 5, 1, 0, 0, 0, 0);
        Checks.receive(x, 0, 6, 2, 0, 0, 0, 0);
        Checks.receive(x, 0, 9, 0, 0, 0, 7, 0);
        Checks.receive(x, 0, 13, 0, 5, 0, 7, 1, 5);
        Checks.receive(x, 0, 14, 3, 6, 0, 7, 1, 6);
        CHECKS.due("depth of the MAP", x.depth(0, 5), 1);
        CHECKS.due("depth of the LIST", x.depth(0, 6), 1);
        CHECKS.due("depth of the PUT", x.depth(0, 9), 1);
        CHECKS.due("depth in the MAP", x.depth(0, 13), 2);
        CHECKS.due("depth in the LIST", x.depth(0, 14), 2);
        CHECKS.due("PUT that knows of the MAP", Checks.receive(x, 0, 17, 0, 0, 0, 7, 1, 5), 1);
        CHECKS.due("depth of the MAP then", x.depth(0, 5), -1);
        CHECKS.due("depth in the MAP then", x.depth(0, 13), -1);
        CHECKS.due("depth in the LIST then", x.depth(0, 14), 2);
        entriesAre(x, 0, 5, 0, 13);
        CHECKS.due("an edit in a map without depth", x.edit(0, 0, 5, 1, 8), 20);
        entriesAre(x, 0, 5, 1, 20);
        CHECKS.due("has none either", x.depth(0, 20), -1);
    }

    /** "Ints that wrap": the same sum taken in longs, of which the low half is kept. */
    private static void sumWraps() {
        ReplicaDocument x = new ReplicaDocument();
        long s = 7;
        int negative = 0;
        for (int count = 1; count <= 16; count++) {
            CHECKS.due("PUT", Checks.receive(x, 0, 4 * count + 2, 0, 0, 3, 99, 0), 1);
            s = 31 * s + 4 * (4 * count + 2) + 3 & 0xffffffffL;
            s = 31 * s + 99 & 0xffffffffL;
            CHECKS.due("sum of " + count, x.sum(0), (int) s);
            negative += x.sum(0) < 0 ? 1 : 0;
        }
        CHECKS.due("it went below 0", negative > 0, true);
        x = new ReplicaDocument();
        x.edit(0, 2, 0, 0, 0);
        s = 11;
        for (int count = 2; count <= 16; count++) {
            x.edit(0, 3, 4, count == 2 ? 0 : 4 * count - 4, 99);
            s = 31 * s + 128 * 4 * count + 99 & 0xffffffffL;
            CHECKS.due("sum of a list of " + count, x.sum(0), (int) (31 * (31 * 7 + 16) + s));
        }
    }

    private static void sumLeavesOutWhatHasNoDepth() {
        ReplicaDocument x = new ReplicaDocument();
        x.edit(0, 1, 0, 0, 0);
        x.edit(0, 0, 4, 0, 50);
        x.edit(0, 5, 0, 0, 0);
        CHECKS.due("cleared", x.sum(0), 7);
        x.edit(0, 0, 4, 1, 51);
        CHECKS.due("a PUT into what is cleared", x.sum(0), 7);
        CHECKS.due("which has its entries", x.entry(0, 4, 0, 0), 8);
        CHECKS.due("both", x.entry(0, 4, 1, 0), 16);
    }

    private static void sumOfMapsAndLists() {
        ReplicaDocument x = new ReplicaDocument();
        x.edit(0, 1, 0, 3, 0);
        int emptyMap = 31 * (31 * 7 + 4 * 4 + 3) + 7;
        CHECKS.due("an empty map", x.sum(0), emptyMap);
        x.edit(0, 2, 4, 1, 0);
        int inner = 31 * (31 * 7 + 4 * 8 + 1) + 11;
        CHECKS.due("an empty list in it", x.sum(0), 31 * (31 * 7 + 4 * 4 + 3) + inner);
        x.edit(0, 3, 8, 0, 50);
        x.edit(0, 3, 8, 12, 60);
        x.edit(0, 3, 8, 12, 70);
        x.edit(0, 4, 12, 0, 0);
        int list = 31 * (31 * 11 + 128 * 20 + 70) + 128 * 16 + 60;
        inner = 31 * (31 * 7 + 4 * 8 + 1) + list;
        CHECKS.due("elements, one gone", x.sum(0), 31 * (31 * 7 + 4 * 4 + 3) + inner);
        Checks.receive(x, 0, 9, 0, 0, 3, 88, 0);
        Checks.receive(x, 0, 5, 0, 0, 0, 77, 0);
        int s = 31 * (31 * 7 + 4 * 5) + 77;
        s = 31 * (31 * s + 4 * 4 + 3) + inner;
        s = 31 * (31 * s + 4 * 9 + 3) + 88;
        CHECKS.due("keys ascending, entries by id", x.sum(0), s);
        x.edit(0, 5, 0, 3, 0);
        CHECKS.due("cleared", x.sum(0), 31 * (31 * 7 + 4 * 5) + 77);
    }

    private static void sumIsTheSameInEveryOrder() {
        ReplicaDocument x = new ReplicaDocument();
        x.edit(0, 1, 0, 0, 0);
        x.edit(1, 2, 0, 0, 0);
        Checks.send(x, 0, 4, 1);
        Checks.send(x, 1, 5, 0);
        x.edit(0, 0, 4, 1, 3);
        x.edit(1, 3, 5, 0, 4);
        Checks.send(x, 0, 8, 2);
        Checks.send(x, 1, 9, 2);
        Checks.send(x, 1, 9, 0);
        Checks.send(x, 0, 8, 1);
        Checks.send(x, 0, 5, 2);
        CHECKS.due("not all there yet", x.sum(2) == x.sum(0), false);
        Checks.send(x, 0, 4, 2);
        CHECKS.due("level(0, 1)", x.level(0, 1), true);
        CHECKS.due("level(2, 0)", x.level(2, 0), true);
        CHECKS.due("sum(1)", x.sum(1), x.sum(0));
        CHECKS.due("sum(2)", x.sum(2), x.sum(0));
        int map = 31 * (31 * 7 + 4 * 8 + 1) + 3;
        int list = 31 * 11 + 128 * 9 + 4;
        CHECKS.due("sum(0)", x.sum(0), 31 * (31 * (31 * (31 * 7 + 16) + map) + 20) + list);
    }

    private static void noReplica() {
        ReplicaDocument x = new ReplicaDocument();
        x.edit(0, 2, 0, 0, 0);
        for (int r : NO_REPLICAS) {
            CHECKS.due("entry(" + r + ", 0, 0, -1)", x.entry(r, 0, 0, -1), -1);
            CHECKS.due("entry(" + r + ", 0, 0, 0)", x.entry(r, 0, 0, 0), -1);
            CHECKS.due("element(" + r + ", 4, -1)", x.element(r, 4, -1), -1);
            CHECKS.due("depth(" + r + ", 0)", x.depth(r, 0), -1);
            CHECKS.due("sum(" + r + ")", x.sum(r), 0);
        }
    }
}

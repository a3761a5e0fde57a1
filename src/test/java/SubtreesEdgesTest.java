/** Promises 22 to 31, sentence by sentence: each boundary case that one names, with the sentence as its part. */
public final class SubtreesEdgesTest {
    public static void main(String[] args) {
        noSuchVertexForAllOfThem();
        subtreeSizeFromOneToAll();
        subtreeSumFromLeafToRoot();
        addInSubtreeTakesTheWholeRange();
        addInSubtreeChangesTheSubtreeAlone();
        addInSubtreeOverflows();
        diameterFromZeroToLongest();
        diameterIsOfTheWholeTree();
        diameterBesideOtherTrees();
        setValueReturnsThePreviousOne();
        setValueTakesTheWholeRange();
        setMarkReturnsWhetherItWasSet();
        nearestMarkedIsTheVertexItself();
        nearestMarkedOfSmallestDistance();
        nearestMarkedOfSmallestNumber();
        nearestMarkedIsNone();
        saveTakesTwoSlots();
        saveOverwrites();
        saveKeepsWhatWasThere();
        restoreNeedsASlot();
        restoreNeedsSomethingSaved();
        restoreBringsEverythingBack();
        restoreLeavesTheSlot();
        Expect.finish();
    }

    private static void noSuchVertexForAllOfThem() {
        Expect.part("22 to 29: NO_SUCH_VERTEX if the vertex does not exist (checked first)");
        DynamicForest x = Trees.saved();
        Calls.ofVertex().forEach((name, call) -> {
            for (int none : new int[] {-1, 9, 10, 63, 64, Calls.NONE, Calls.MIN, Calls.MAX}) {
                Expect.due(name + " of " + none, call.ask(x, none), Calls.NO_SUCH_VERTEX);
            }
        });
        Expect.same("after them", Dump.withSlots(x), Dump.withSlots(Trees.saved()));
    }

    private static void subtreeSizeFromOneToAll() {
        Expect.part("22: the number of vertices of the subtree");
        DynamicForest x = Trees.chain(64);
        for (int v = 0; v < 64; v++) {
            Expect.due("subtreeSize(" + v + ")", x.subtreeSize(v), 64 - v);
        }
        x.reroot(63);
        for (int v = 0; v < 64; v++) {
            Expect.due("subtreeSize(" + v + ") below 63", x.subtreeSize(v), v + 1);
        }
        Expect.due("the only vertex", Trees.chain(1).subtreeSize(0), 1);
        Expect.due("the middle of a star", Trees.star(64).subtreeSize(0), 64);
    }

    private static void subtreeSumFromLeafToRoot() {
        Expect.part("23: the sum of the values in the subtree");
        DynamicForest x = Trees.seven(1, 10, 100, 1000, 10000, 100000, 1000000);
        x.setValue(9, -5);
        int[] sums = {1111111, 11010, 1100100, 1000, 10000, 1100000, 1000000, 0, 0, -5};
        for (int v = 0; v < 10; v++) {
            Expect.due("subtreeSum(" + v + ")", x.subtreeSum(v), sums[v]);
        }
        DynamicForest y = Trees.star(64);
        y.addInSubtree(0, Calls.LIMIT);
        Expect.due("the greatest sum", y.subtreeSum(0), 64000000);
        y.addInSubtree(0, -Calls.LIMIT);
        y.addInSubtree(0, -Calls.LIMIT);
        Expect.due("the least sum", y.subtreeSum(0), -64000000);
    }

    private static void addInSubtreeTakesTheWholeRange() {
        Expect.part("24: delta: -1000000 to 1000000; OUT_OF_RANGE if it is not (checked second)");
        DynamicForest x = Trees.seven();
        for (int sign : new int[] {1, -1}) {
            Expect.due("delta at the limit", x.addInSubtree(2, sign * Calls.LIMIT), 3);
            Expect.due("value(6)", x.value(6), sign * Calls.LIMIT);
            Expect.due("delta back", x.addInSubtree(2, -sign * Calls.LIMIT), 3);
            Expect.due("value(6) at 0 again", x.value(6), 0);
        }
        x.setValue(6, Calls.LIMIT);
        x.setValue(4, -Calls.LIMIT);
        String before = Dump.of(x);
        for (int delta : Calls.NO_VALUES) {
            Expect.due("addInSubtree(0, " + delta + ")", x.addInSubtree(0, delta), Calls.OUT_OF_RANGE);
            Expect.due("addInSubtree(4, " + delta + ")", x.addInSubtree(4, delta), Calls.OUT_OF_RANGE);
            Expect.due("addInSubtree(9, " + delta + ")", x.addInSubtree(9, delta), Calls.OUT_OF_RANGE);
            Expect.due("addInSubtree(16, " + delta + ")", x.addInSubtree(16, delta), Calls.NO_SUCH_VERTEX);
        }
        Expect.same("after refused calls", Dump.of(x), before);
    }

    private static void addInSubtreeChangesTheSubtreeAlone() {
        Expect.part("24: adds to all vertices of the subtree; returns their number");
        DynamicForest x = Trees.chain(64);
        x.setMark(40, true);
        Expect.due("addInSubtree(0, 1), the root", x.addInSubtree(0, 1), 64);
        Expect.due("addInSubtree(63, 10), a leaf", x.addInSubtree(63, 10), 1);
        Expect.due("addInSubtree(32, -3)", x.addInSubtree(32, -3), 32);
        Expect.due("addInSubtree(1, 0)", x.addInSubtree(1, 0), 63);
        for (int v = 0; v < 64; v++) {
            Expect.due("value(" + v + ")", x.value(v), v < 32 ? 1 : v == 63 ? 8 : -2);
        }
        Expect.due("the mark of 40 stays", x.setMark(40, true), 1);
    }

    private static void addInSubtreeOverflows() {
        Expect.part("24: VALUE_OVERFLOW if a value would be outside of the range");
        for (int sign : new int[] {1, -1}) {
            for (int full : new int[] {2, 5, 6}) {
                DynamicForest x = Trees.seven();
                x.setValue(full, sign * 999999);
                x.setValue(1, sign * Calls.LIMIT);
                Expect.due("up to the limit, " + full, x.addInSubtree(2, sign), 3);
                Expect.due("value(" + full + ")", x.value(full), sign * Calls.LIMIT);
                String before = Dump.of(x);
                Expect.due("over the limit, " + full, x.addInSubtree(2, sign), Calls.VALUE_OVERFLOW);
                Expect.due("over the limit from the root, " + full, x.addInSubtree(0, sign), Calls.VALUE_OVERFLOW);
                Expect.due("far over the limit, " + full, x.addInSubtree(2, sign * Calls.LIMIT), Calls.VALUE_OVERFLOW);
                Expect.same("after refused calls", Dump.of(x), before);
                Expect.due("nothing more, " + full, x.addInSubtree(2, 0), 3);
                Expect.due("the full one is beside the subtree", x.addInSubtree(4, sign), 1);
            }
        }
    }

    private static void diameterFromZeroToLongest() {
        Expect.part("25: the length of the longest path between two vertices of the tree");
        Expect.due("the only vertex", Trees.chain(1).diameter(0), 0);
        Expect.due("a single vertex of many", new DynamicForest().diameter(15), 0);
        for (int n = 2; n <= 64; n++) {
            DynamicForest x = Trees.chain(n);
            Expect.due("a chain of " + n + " from its root", x.diameter(0), n - 1);
            Expect.due("a chain of " + n + " from its end", x.diameter(n - 1), n - 1);
            Expect.due("a star of " + n, Trees.star(n).diameter(n - 1), n == 2 ? 1 : 2);
            x.reroot(n / 2);
            Expect.due("a chain of " + n + " from its middle", x.diameter(0), n - 1);
        }
    }

    private static void diameterIsOfTheWholeTree() {
        Expect.part("25: of the tree of a vertex, not of its subtree, nor of another tree");
        DynamicForest x = Trees.chain(64);
        x.cut(60);
        x.cut(20);
        for (int v = 0; v < 64; v++) {
            Expect.due("diameter(" + v + ")", x.diameter(v), v < 20 ? 19 : v < 60 ? 39 : 3);
        }
        DynamicForest y = Trees.chain(64);
        y.cut(32);
        y.link(32, 30);
        Expect.due("two arms that meet low: 0 to 30, then 1 or 32", y.diameter(0), 62);
        y.cut(11);
        Expect.due("the arms alone", y.diameter(11), 51);
        y.cut(30);
        Expect.due("31 and the long arm", y.diameter(31), 33);
    }

    /** The other trees are longer, with smaller and with greater numbers, or single vertices. */
    private static void diameterBesideOtherTrees() {
        Expect.part("25: between two vertices of the tree");
        DynamicForest x = Trees.chain(64);
        x.cut(30);
        x.cut(31);
        x.cut(33);
        Expect.due("diameter(30), alone between long ones", x.diameter(30), 0);
        Expect.due("diameter(31), a pair between long ones", x.diameter(31), 1);
        Expect.due("diameter(32), a pair between long ones", x.diameter(32), 1);
        DynamicForest y = new DynamicForest();
        y.link(8, 7);
        Expect.due("diameter(7), a pair between single ones", y.diameter(7), 1);
        Expect.due("diameter(8), a pair between single ones", y.diameter(8), 1);
        y.link(15, 14);
        Expect.due("diameter(15), the last pair", y.diameter(15), 1);
        Expect.due("diameter(0), alone before pairs", y.diameter(0), 0);
    }

    private static void setValueReturnsThePreviousOne() {
        Expect.part("26: returns the previous value");
        DynamicForest x = Trees.chain(64);
        Expect.due("setValue(63, 4)", x.setValue(63, 4), 0);
        Expect.due("setValue(63, 1000001), refused", x.setValue(63, Calls.LIMIT + 1), Calls.OUT_OF_RANGE);
        Expect.due("setValue(63, 4) again", x.setValue(63, 4), 4);
        Expect.due("setValue(63, -1)", x.setValue(63, -1), 4);
        Expect.due("setValue(63, 0)", x.setValue(63, 0), -1);
        Expect.due("value(62), another", x.value(62), 0);
        Expect.due("value(0), another", x.value(0), 0);
    }

    private static void setValueTakesTheWholeRange() {
        Expect.part("26: OUT_OF_RANGE if value is not -1000000 to 1000000, after NO_SUCH_VERTEX");
        DynamicForest x = new DynamicForest();
        Expect.due("setValue(15, -1000000)", x.setValue(15, -Calls.LIMIT), 0);
        Expect.due("setValue(15, 1000000)", x.setValue(15, Calls.LIMIT), -Calls.LIMIT);
        for (int value : Calls.NO_VALUES) {
            Expect.due("setValue(15, " + value + ")", x.setValue(15, value), Calls.OUT_OF_RANGE);
            Expect.due("setValue(16, " + value + ")", x.setValue(16, value), Calls.NO_SUCH_VERTEX);
            Expect.due("27: value(15)", x.value(15), Calls.LIMIT);
        }
    }

    private static void setMarkReturnsWhetherItWasSet() {
        Expect.part("28: returns 1 if it was set before, otherwise 0");
        DynamicForest x = Trees.chain(64);
        for (int v : new int[] {0, 63}) {
            Expect.due("setMark(" + v + ", false), never set", x.setMark(v, false), 0);
            Expect.due("setMark(" + v + ", true)", x.setMark(v, true), 0);
            Expect.due("setMark(" + v + ", true) twice", x.setMark(v, true), 1);
            Expect.due("setMark(" + v + ", false)", x.setMark(v, false), 1);
            Expect.due("setMark(" + v + ", false) twice", x.setMark(v, false), 0);
            Expect.due("nearestMarked(" + v + "), removed", x.nearestMarked(v), Calls.NONE);
            Expect.due("value(" + v + ")", x.value(v), 0);
        }
    }

    private static void nearestMarkedIsTheVertexItself() {
        Expect.part("29: possibly the vertex itself");
        DynamicForest x = Trees.chain(64);
        for (int v = 0; v < 64; v++) {
            x.setMark(v, true);
        }
        for (int v = 0; v < 64; v++) {
            Expect.due("nearestMarked(" + v + ")", x.nearestMarked(v), v);
        }
        DynamicForest y = new DynamicForest();
        y.setMark(15, true);
        Expect.due("nearestMarked(15), alone", y.nearestMarked(15), 15);
    }

    private static void nearestMarkedOfSmallestDistance() {
        Expect.part("29: of smallest distance");
        DynamicForest x = Trees.chain(64);
        x.setMark(0, true);
        x.setMark(63, true);
        for (int v = 0; v < 64; v++) {
            Expect.due("nearestMarked(" + v + ")", x.nearestMarked(v), v < 32 ? 0 : 63);
        }
        x.setMark(0, false);
        Expect.due("nearestMarked(0), as far as can be", x.nearestMarked(0), 63);
        DynamicForest y = Trees.seven();
        y.setMark(1, true);
        y.setMark(6, true);
        Expect.due("nearestMarked(2), both in two steps", y.nearestMarked(2), 1);
        Expect.due("nearestMarked(5), one step below", y.nearestMarked(5), 6);
        y.setMark(6, false);
        Expect.due("nearestMarked(5), over the root", y.nearestMarked(5), 1);
    }

    private static void nearestMarkedOfSmallestNumber() {
        Expect.part("29: if there are several, the one with the smallest number");
        DynamicForest x = Trees.star(64);
        for (int v = 63; v > 0; v--) {
            x.setMark(v, true);
            Expect.due("nearestMarked(0) from " + v, x.nearestMarked(0), v);
        }
        x.setMark(40, false);
        Expect.due("nearestMarked(40), all in two steps", x.nearestMarked(40), 1);
        DynamicForest y = Trees.chain(5);
        y.reroot(4);
        y.setMark(1, true);
        y.setMark(3, true);
        Expect.due("nearestMarked(2), the smaller is below", y.nearestMarked(2), 1);
        y.reroot(0);
        Expect.due("nearestMarked(2), the smaller is above", y.nearestMarked(2), 1);
    }

    private static void nearestMarkedIsNone() {
        Expect.part("29: NO_SUCH_VERTEX (checked first); NONE if its tree has no marked vertex");
        DynamicForest x = Trees.seven();
        Expect.due("nearestMarked(0), no mark at all", x.nearestMarked(0), Calls.NONE);
        for (int v = 7; v < 16; v++) {
            x.setMark(v, true);
        }
        for (int v = 0; v < 7; v++) {
            Expect.due("nearestMarked(" + v + "), marks in other trees", x.nearestMarked(v), Calls.NONE);
        }
        Expect.due("nearestMarked(16)", x.nearestMarked(16), Calls.NO_SUCH_VERTEX);
        Expect.due("nearestMarked(-1)", x.nearestMarked(-1), Calls.NO_SUCH_VERTEX);
        x.link(7, 3);
        Expect.due("nearestMarked(6) after a link", x.nearestMarked(6), 7);
        x.cut(7);
        Expect.due("nearestMarked(6) after a cut", x.nearestMarked(6), Calls.NONE);
    }

    private static void saveTakesTwoSlots() {
        Expect.part("30: slot: 0 or 1; OUT_OF_RANGE if it is not; returns the number of vertices");
        for (int n : new int[] {1, 64}) {
            DynamicForest x = Trees.chain(n);
            Expect.due("save(0) of " + n, x.save(0), n);
            Expect.due("save(1) of " + n, x.save(1), n);
        }
        for (int slot : new int[] {-1, -2, 2, 3, 256, 257, Calls.MIN, Calls.MIN + 1, Calls.MAX}) {
            DynamicForest x = Trees.saved();
            Expect.due("save(" + slot + ")", x.save(slot), Calls.OUT_OF_RANGE);
            Expect.same("after save(" + slot + ")", Dump.withSlots(x), Dump.withSlots(Trees.saved()));
            DynamicForest y = new DynamicForest();
            y.save(slot);
            Expect.due("restore(0) after save(" + slot + ")", y.restore(0), Calls.NOT_SAVED);
            Expect.due("restore(1) after save(" + slot + ")", y.restore(1), Calls.NOT_SAVED);
        }
    }

    private static void saveOverwrites() {
        Expect.part("30: overwrites what was saved there");
        for (int slot = 0; slot < 2; slot++) {
            DynamicForest x = Trees.saved();
            String now = Dump.of(x);
            Expect.due("save(" + slot + ")", x.save(slot), 9);
            Expect.same("after save(" + slot + ")", Dump.of(x), now);
            Expect.due("restore of the other slot", x.restore(1 - slot), slot == 0 ? 64 : 3);
            Expect.due("restore(" + slot + ")", x.restore(slot), 9);
            Expect.same("what was saved last", Dump.of(x), now);
        }
    }

    private static void saveKeepsWhatWasThere() {
        Expect.part("30: saves the vertices, edges, values and marks");
        DynamicForest x = Trees.saved();
        String now = Dump.of(x);
        x.save(0);
        x.reroot(6);
        x.cut(1);
        x.link(8, 7);
        x.setOnPath(6, 0, 3);
        x.addInSubtree(1, 2);
        x.reverseValues(3, 4);
        x.setMark(4, false);
        x.setMark(5, true);
        Expect.due("restore(0)", x.restore(0), 9);
        Expect.same("after changes of every kind", Dump.of(x), now);
    }

    private static void restoreNeedsASlot() {
        Expect.part("31: slot: 0 or 1; OUT_OF_RANGE if it is not (checked first)");
        for (int slot : new int[] {-1, -2, 2, 3, 256, 257, Calls.MIN, Calls.MIN + 1, Calls.MAX}) {
            DynamicForest x = Trees.saved();
            Expect.due("restore(" + slot + ")", x.restore(slot), Calls.OUT_OF_RANGE);
            Expect.same("after restore(" + slot + ")", Dump.withSlots(x), Dump.withSlots(Trees.saved()));
            Expect.due("restore(" + slot + "), nothing saved", new DynamicForest().restore(slot), Calls.OUT_OF_RANGE);
        }
    }

    private static void restoreNeedsSomethingSaved() {
        Expect.part("31: NOT_SAVED if nothing was saved there");
        for (int slot = 0; slot < 2; slot++) {
            DynamicForest x = Trees.seven(1, 2, 3);
            String now = Dump.of(x);
            Expect.due("restore(" + slot + ")", x.restore(slot), Calls.NOT_SAVED);
            Expect.same("after it", Dump.of(x), now);
            x.save(1 - slot);
            Expect.due("restore(" + slot + "), the other one is saved", x.restore(slot), Calls.NOT_SAVED);
            Expect.same("after that", Dump.of(x), now);
            x.restore(1 - slot);
            Expect.due("restore(" + slot + "), the other one restored", x.restore(slot), Calls.NOT_SAVED);
        }
    }

    private static void restoreBringsEverythingBack() {
        Expect.part("31: restores what was saved last; returns the number of vertices");
        for (int n : new int[] {1, 2, 63, 64}) {
            for (int between : new int[] {1, 64}) {
                DynamicForest x = Trees.chain(n);
                x.setOnPath(0, n - 1, -Calls.LIMIT);
                x.setMark(n - 1, true);
                String now = Dump.of(x);
                x.save(1);
                x.reset(between);
                x.setMark(0, true);
                x.setValue(between - 1, 6);
                Expect.due("restore(1) of " + n, x.restore(1), n);
                Expect.same("after restore(1) of " + n, Dump.of(x), now);
                Expect.due("vertexCount()", x.vertexCount(), n);
            }
        }
        DynamicForest y = new DynamicForest();
        y.save(0);
        Expect.due("restore(0) of what has not changed", y.restore(0), 16);
        Expect.due("treeCount()", y.treeCount(), 16);
    }

    private static void restoreLeavesTheSlot() {
        Expect.part("31: the slot keeps it");
        DynamicForest x = Trees.saved();
        Expect.due("restore(0)", x.restore(0), 3);
        String first = Dump.of(x);
        for (int round = 0; round < 3; round++) {
            x.setValue(2, 8 + round);
            x.cut(0);
            x.setMark(1, true);
            x.link(1, 0);
            Expect.due("restore(0) again", x.restore(0), 3);
            Expect.same("what the slot kept", Dump.of(x), first);
        }
        Expect.due("restore(1)", x.restore(1), 64);
        x.setMark(63, false);
        x.reset(64);
        Expect.due("restore(1) again", x.restore(1), 64);
        Expect.due("nearestMarked(0)", x.nearestMarked(0), 63);
        Expect.due("pathSum(0, 63)", x.pathSum(0, 63), 576);
    }
}

/** Promises 22 to 31: subtrees and trees, values and marks, saving. */
public final class SubtreesTest {
    private static final int NO_SUCH_VERTEX = -100000001, OUT_OF_RANGE = -100000002, VALUE_OVERFLOW = -100000005;
    private static final int NOT_SAVED = -100000006, NONE = -100000007, LIMIT = 1000000;
    private static final int MIN = Integer.MIN_VALUE, MAX = Integer.MAX_VALUE;
    private static final int[] NO_VERTICES = {-1, 16, 64, 99, -100000007, MIN, MAX};

    public static void main(String[] args) {
        subtreeSize();
        subtreeSum();
        addInSubtree();
        diameter();
        setValue();
        value();
        setMark();
        nearestMarked();
        save();
        restore();
        Expect.finish();
    }

    private static DynamicForest tree() {
        return Trees.seven(5, -2, 7, 1, 5, -2, 7);
    }

    private static DynamicForest chain() {
        return Trees.chain(64);
    }

    private static void subtreeSize() {
        Expect.part("promise 22");
        DynamicForest x = tree();
        int[] sizes = {7, 3, 3, 1, 1, 2, 1, 1};
        for (int v = 0; v < 8; v++) {
            Expect.due("subtreeSize(" + v + ")", x.subtreeSize(v), sizes[v]);
        }
        for (int none : NO_VERTICES) {
            Expect.due("subtreeSize(" + none + ")", x.subtreeSize(none), NO_SUCH_VERTEX);
        }
        x.reroot(5);
        Expect.due("subtreeSize(2) below 5", x.subtreeSize(2), 5);
        Expect.due("subtreeSize(5), the root", x.subtreeSize(5), 7);
        Expect.due("subtreeSize(0) of a chain", chain().subtreeSize(0), 64);
    }

    private static void subtreeSum() {
        Expect.part("promise 23");
        DynamicForest x = tree();
        int[] sums = {21, 4, 12, 1, 5, 5, 7, 0};
        for (int v = 0; v < 8; v++) {
            Expect.due("subtreeSum(" + v + ")", x.subtreeSum(v), sums[v]);
        }
        for (int none : NO_VERTICES) {
            Expect.due("subtreeSum(" + none + ")", x.subtreeSum(none), NO_SUCH_VERTEX);
        }
        DynamicForest y = chain();
        y.setOnPath(0, 63, LIMIT);
        Expect.due("greatest sum", y.subtreeSum(0), 64 * LIMIT);
        y.setOnPath(0, 63, -LIMIT);
        Expect.due("smallest sum", y.subtreeSum(0), -64 * LIMIT);
    }

    private static void addInSubtree() {
        Expect.part("promise 24");
        DynamicForest x = tree();
        Expect.due("addInSubtree(2, -3)", x.addInSubtree(2, -3), 3);
        int[] values = {5, -2, 4, 1, 5, -5, 4};
        for (int v = 0; v < 7; v++) {
            Expect.due("value(" + v + ")", x.value(v), values[v]);
        }
        Expect.due("addInSubtree(0, 1)", x.addInSubtree(0, 1), 7);
        Expect.due("value(6)", x.value(6), 5);
        Expect.due("value(0)", x.value(0), 6);
        Expect.due("value(7), another tree", x.value(7), 0);
        Expect.due("addInSubtree(8, 1000000)", x.addInSubtree(8, LIMIT), 1);
        Expect.due("addInSubtree(9, -1000000)", x.addInSubtree(9, -LIMIT), 1);
        x.setValue(6, -LIMIT);
        x.setValue(4, LIMIT);
        String before = Dump.of(x);
        for (int none : NO_VERTICES) {
            Expect.due("addInSubtree(" + none + ", 1)", x.addInSubtree(none, 1), NO_SUCH_VERTEX);
            Expect.due("addInSubtree(" + none + ", 1000001)", x.addInSubtree(none, LIMIT + 1), NO_SUCH_VERTEX);
        }
        for (int delta : new int[] {LIMIT + 1, -LIMIT - 1, MIN, MAX}) {
            Expect.due("addInSubtree(0, " + delta + ")", x.addInSubtree(0, delta), OUT_OF_RANGE);
            Expect.due("addInSubtree(7, " + delta + ")", x.addInSubtree(7, delta), OUT_OF_RANGE);
        }
        Expect.due("addInSubtree(0, -1)", x.addInSubtree(0, -1), VALUE_OVERFLOW);
        Expect.due("addInSubtree(1, 1)", x.addInSubtree(1, 1), VALUE_OVERFLOW);
        Expect.due("addInSubtree(3, 1000000)", x.addInSubtree(3, LIMIT), VALUE_OVERFLOW);
        Expect.same("after failing calls", Dump.of(x), before);
        Expect.due("addInSubtree(2, 1), the full one is outside", x.addInSubtree(2, 1), 3);
        Expect.due("addInSubtree(8, 0), full", x.addInSubtree(8, 0), 1);
        DynamicForest y = chain();
        y.setValue(0, LIMIT);
        Expect.due("addInSubtree(0, 1), the root alone is full", y.addInSubtree(0, 1), VALUE_OVERFLOW);
        Expect.due("addInSubtree(1, 1), below it", y.addInSubtree(1, 1), 63);
    }

    private static void diameter() {
        Expect.part("promise 25");
        DynamicForest x = tree();
        for (int v = 0; v < 7; v++) {
            Expect.due("diameter(" + v + ")", x.diameter(v), 5);
        }
        Expect.due("diameter(9), alone", x.diameter(9), 0);
        for (int none : NO_VERTICES) {
            Expect.due("diameter(" + none + ")", x.diameter(none), NO_SUCH_VERTEX);
        }
        x.reroot(2);
        Expect.due("diameter(0) below 2", x.diameter(0), 5);
        x.cut(0);
        Expect.due("diameter(0) after the cut", x.diameter(0), 2);
        Expect.due("diameter(2) after the cut", x.diameter(2), 2);
        Expect.due("diameter(30) of a chain", chain().diameter(30), 63);
        longestPathBesideTheRoot();
    }

    /** Root 0 over 1 alone; two long arms meet in 1. */
    private static void longestPathBesideTheRoot() {
        DynamicForest x = new DynamicForest();
        int[] parents = {NONE, 0, 1, 2, 3, 1, 5, 6, 7};
        for (int v = 1; v < parents.length; v++) {
            x.link(v, parents[v]);
        }
        Expect.due("diameter(0), not through the root", x.diameter(0), 7);
        Expect.due("diameter(4)", x.diameter(4), 7);
    }

    private static void setValue() {
        Expect.part("promise 26");
        DynamicForest x = tree();
        Expect.due("setValue(3, 8)", x.setValue(3, 8), 1);
        Expect.due("setValue(3, 1000000)", x.setValue(3, LIMIT), 8);
        Expect.due("setValue(3, -1000000)", x.setValue(3, -LIMIT), LIMIT);
        Expect.due("value(3)", x.value(3), -LIMIT);
        Expect.due("value(1), another", x.value(1), -2);
        String before = Dump.of(x);
        for (int none : NO_VERTICES) {
            Expect.due("setValue(" + none + ", 1)", x.setValue(none, 1), NO_SUCH_VERTEX);
            Expect.due("setValue(" + none + ", 1000001)", x.setValue(none, LIMIT + 1), NO_SUCH_VERTEX);
        }
        for (int value : new int[] {LIMIT + 1, -LIMIT - 1, MIN, MAX}) {
            Expect.due("setValue(3, " + value + ")", x.setValue(3, value), OUT_OF_RANGE);
        }
        Expect.same("after failing calls", Dump.of(x), before);
    }

    private static void value() {
        Expect.part("promise 27");
        DynamicForest x = tree();
        int[] values = {5, -2, 7, 1, 5, -2, 7, 0};
        for (int v = 0; v < 8; v++) {
            Expect.due("value(" + v + ")", x.value(v), values[v]);
        }
        for (int none : NO_VERTICES) {
            Expect.due("value(" + none + ")", x.value(none), NO_SUCH_VERTEX);
        }
    }

    private static void setMark() {
        Expect.part("promise 28");
        DynamicForest x = tree();
        Expect.due("setMark(3, false)", x.setMark(3, false), 0);
        Expect.due("setMark(3, true)", x.setMark(3, true), 0);
        Expect.due("setMark(3, true) again", x.setMark(3, true), 1);
        Expect.due("setMark(4, true), another", x.setMark(4, true), 0);
        Expect.due("setMark(3, false) after true", x.setMark(3, false), 1);
        Expect.due("setMark(3, false) again", x.setMark(3, false), 0);
        Expect.due("setMark(4, true) still", x.setMark(4, true), 1);
        String before = Dump.of(x);
        for (int none : NO_VERTICES) {
            Expect.due("setMark(" + none + ", true)", x.setMark(none, true), NO_SUCH_VERTEX);
            Expect.due("setMark(" + none + ", false)", x.setMark(none, false), NO_SUCH_VERTEX);
        }
        Expect.same("after failing calls", Dump.of(x), before);
    }

    private static void nearestMarked() {
        Expect.part("promise 29");
        DynamicForest x = tree();
        for (int none : NO_VERTICES) {
            Expect.due("nearestMarked(" + none + ")", x.nearestMarked(none), NO_SUCH_VERTEX);
        }
        x.setMark(9, true);
        Expect.due("nearestMarked(0), none in its tree", x.nearestMarked(0), NONE);
        Expect.due("nearestMarked(9), itself", x.nearestMarked(9), 9);
        x.setMark(6, true);
        Expect.due("nearestMarked(3), the only one", x.nearestMarked(3), 6);
        x.setMark(4, true);
        x.setMark(3, true);
        Expect.due("nearestMarked(1), smallest number", x.nearestMarked(1), 3);
        Expect.due("nearestMarked(4), itself", x.nearestMarked(4), 4);
        Expect.due("nearestMarked(0)", x.nearestMarked(0), 3);
        Expect.due("nearestMarked(2), the nearer with a greater number", x.nearestMarked(2), 6);
        x.cut(6);
        Expect.due("nearestMarked(2) after the cut", x.nearestMarked(2), 3);
        x.setMark(0, true);
        Expect.due("nearestMarked(2), the smallest of all numbers", x.nearestMarked(2), 0);
        DynamicForest y = chain();
        y.setMark(63, true);
        Expect.due("nearestMarked(0) of a chain", y.nearestMarked(0), 63);
    }

    private static void save() {
        Expect.part("promise 30");
        DynamicForest x = tree();
        x.setMark(5, true);
        String before = Dump.of(x);
        for (int slot : new int[] {-1, 2, 3, 64, MIN, MAX}) {
            Expect.due("save(" + slot + ")", x.save(slot), OUT_OF_RANGE);
        }
        Expect.due("restore(0), nothing saved", x.restore(0), NOT_SAVED);
        Expect.due("restore(1), nothing saved", x.restore(1), NOT_SAVED);
        Expect.due("save(1)", x.save(1), 16);
        Expect.due("restore(0), still nothing saved", x.restore(0), NOT_SAVED);
        Expect.same("after save(1)", Dump.of(x), before);
        x.reset(64);
        x.link(63, 62);
        x.setValue(63, 4);
        String second = Dump.of(x);
        Expect.due("save(1) over it", x.save(1), 64);
        x.reset(2);
        Expect.due("save(0)", x.save(0), 2);
        Expect.due("restore(1)", x.restore(1), 64);
        Expect.same("what was saved last", Dump.of(x), second);
        Expect.due("restore(0)", x.restore(0), 2);
        Expect.due("treeCount()", x.treeCount(), 2);
    }

    private static void restore() {
        Expect.part("promise 31");
        DynamicForest x = tree();
        x.setMark(5, true);
        x.reroot(4);
        String before = Dump.of(x);
        for (int slot : new int[] {-1, 2, 3, 64, MIN, MAX}) {
            Expect.due("restore(" + slot + ")", x.restore(slot), OUT_OF_RANGE);
        }
        Expect.due("restore(0), nothing saved", x.restore(0), NOT_SAVED);
        Expect.same("after failing restores", Dump.of(x), before);
        x.save(0);
        for (int round = 0; round < 2; round++) {
            x.reset(5);
            x.link(4, 3);
            x.setValue(4, 77);
            x.setMark(4, true);
            Expect.due("restore(0)", x.restore(0), 16);
            Expect.same("what was saved", Dump.of(x), before);
            x.cut(5);
            x.setValue(5, 3);
            x.setMark(5, false);
        }
        Expect.due("restore(0), the slot keeps it", x.restore(0), 16);
        Expect.same("what was saved, after changes", Dump.of(x), before);
        Expect.due("restore(1), nothing saved", x.restore(1), NOT_SAVED);
    }
}

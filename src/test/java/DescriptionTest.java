import java.util.Map;

/** "The public face" and "Description": the sentences that hold for all promises, a function each. */
public final class DescriptionTest {
    private static final int[] SIZES = {1, 2, 15, 16, 17, 63, 64};

    public static void main(String[] args) {
        failingCallsChangeNothing();
        firstErrorIsAnswered();
        noneComesAfterEveryError();
        codesAreBelowAllResults();
        verticesAreNumberedBelowN();
        countIsOneToSixtyFour();
        valuesReachFromLimitToLimit();
        overflowChangesNothing();
        noVertexIsItsOwnAncestor();
        verticesAreRootsAtFirst();
        treesHaveOneRoot();
        vertexIsAncestorAndDescendantOfItself();
        depthCountsOtherAncestors();
        pathsExistInOneTreeOnly();
        pathsGoUpAndThenDown();
        ancestorOfGreatestDepth();
        tiesGoToTheSmallestIndex();
        fiveHundredAndTwelveCalls();
        Expect.finish();
    }

    private static void failingCallsChangeNothing() {
        Expect.part("a call that returns an error code changes nothing");
        DynamicForest x = Trees.saved();
        String before = Dump.of(x);
        for (int none : new int[] {-1, 9, 63, 64, Calls.MIN, Calls.MAX}) {
            askWithout(x, none);
            Expect.same("after calls with " + none, Dump.of(x), before);
        }
        for (Map.Entry<String, Calls.OfPair> call : Calls.ofPath().entrySet()) {
            Expect.due(call.getKey() + " of 6, 7", call.getValue().ask(x, 6, 7), Calls.NOT_CONNECTED);
            Expect.same("after " + call.getKey(), Dump.of(x), before);
        }
        for (int number : Calls.NO_VALUES) {
            Expect.due("addOnPath(0, 0, " + number + ")", x.addOnPath(0, 0, number), Calls.OUT_OF_RANGE);
            Expect.due("setOnPath(0, 6, " + number + ")", x.setOnPath(0, 6, number), Calls.OUT_OF_RANGE);
            Expect.due("addInSubtree(2, " + number + ")", x.addInSubtree(2, number), Calls.OUT_OF_RANGE);
            Expect.due("setValue(0, " + number + ")", x.setValue(0, number), Calls.OUT_OF_RANGE);
            Expect.same("after " + number + " as a value", Dump.of(x), before);
        }
        Expect.due("link(1, 7), no root", x.link(1, 7), Calls.NOT_A_ROOT);
        Expect.due("link(0, 6), below it", x.link(0, 6), Calls.SAME_TREE);
        Expect.same("after failing links", Dump.of(x), before);
        for (int wrong : new int[] {0, -1, 65, Calls.MIN, Calls.MAX}) {
            Expect.due("reset(" + wrong + ")", x.reset(wrong), Calls.OUT_OF_RANGE);
            int slot = wrong == 0 ? 2 : wrong;
            Expect.due("save(" + slot + ")", x.save(slot), Calls.OUT_OF_RANGE);
            Expect.due("restore(" + slot + ")", x.restore(slot), Calls.OUT_OF_RANGE);
            Expect.same("after " + wrong + " as a count or a slot", Dump.of(x), before);
        }
        Expect.same("the slots after all", Dump.withSlots(x), Dump.withSlots(Trees.saved()));
    }

    private static void askWithout(DynamicForest x, int none) {
        for (Map.Entry<String, Calls.OfVertex> call : Calls.ofVertex().entrySet()) {
            Expect.due(call.getKey() + " of " + none, call.getValue().ask(x, none), Calls.NO_SUCH_VERTEX);
        }
        for (Map.Entry<String, Calls.OfPair> call : Calls.ofPair().entrySet()) {
            for (int v = 0; v < x.vertexCount(); v++) {
                Expect.due(call.getKey() + " of " + v + ", " + none, call.getValue().ask(x, v, none), Calls.NO_SUCH_VERTEX);
                Expect.due(call.getKey() + " of " + none + ", " + v, call.getValue().ask(x, none, v), Calls.NO_SUCH_VERTEX);
            }
            Expect.due(call.getKey() + " of " + none + " twice", call.getValue().ask(x, none, none), Calls.NO_SUCH_VERTEX);
        }
    }

    private static void firstErrorIsAnswered() {
        Expect.part("when several errors apply, the first listed is returned");
        DynamicForest x = Trees.saved();
        Expect.due("link: no such vertex, no root", x.link(1, 9), Calls.NO_SUCH_VERTEX);
        Expect.due("link: no root, same tree", x.link(1, 0), Calls.NOT_A_ROOT);
        Expect.due("link: no root, same vertex", x.link(6, 6), Calls.NOT_A_ROOT);
        Expect.due("addOnPath: no such vertex, range", x.addOnPath(0, 9, Calls.LIMIT + 1), Calls.NO_SUCH_VERTEX);
        Expect.due("addOnPath: not connected, range", x.addOnPath(0, 7, Calls.LIMIT + 1), Calls.NOT_CONNECTED);
        Expect.due("addOnPath: not connected, overflow", x.addOnPath(6, 7, 1), Calls.NOT_CONNECTED);
        Expect.due("addOnPath: range, overflow above", x.addOnPath(6, 6, Calls.LIMIT + 1), Calls.OUT_OF_RANGE);
        Expect.due("addOnPath: range, overflow below", x.addOnPath(4, 4, -Calls.LIMIT - 1), Calls.OUT_OF_RANGE);
        Expect.due("setOnPath: no such vertex, range", x.setOnPath(9, 0, Calls.LIMIT + 1), Calls.NO_SUCH_VERTEX);
        Expect.due("setOnPath: not connected, range", x.setOnPath(7, 0, Calls.LIMIT + 1), Calls.NOT_CONNECTED);
        Expect.due("addInSubtree: no such vertex, range", x.addInSubtree(9, Calls.LIMIT + 1), Calls.NO_SUCH_VERTEX);
        Expect.due("addInSubtree: range, overflow above", x.addInSubtree(6, Calls.LIMIT + 1), Calls.OUT_OF_RANGE);
        Expect.due("addInSubtree: range, overflow below", x.addInSubtree(4, -Calls.LIMIT - 1), Calls.OUT_OF_RANGE);
        Expect.due("setValue: no such vertex, range", x.setValue(9, Calls.LIMIT + 1), Calls.NO_SUCH_VERTEX);
        DynamicForest y = new DynamicForest();
        Expect.due("restore: slot out of range, nothing saved", y.restore(2), Calls.OUT_OF_RANGE);
    }

    private static void noneComesAfterEveryError() {
        Expect.part("NONE is returned only if no error applies");
        DynamicForest x = new DynamicForest();
        Expect.due("cut(16)", x.cut(16), Calls.NO_SUCH_VERTEX);
        Expect.due("parent(16)", x.parent(16), Calls.NO_SUCH_VERTEX);
        Expect.due("nearestMarked(16)", x.nearestMarked(16), Calls.NO_SUCH_VERTEX);
        for (int index : new int[] {-1, 1, 64, Calls.MIN, Calls.MAX}) {
            Expect.due("pathVertex(0, 16, " + index + ")", x.pathVertex(0, 16, index), Calls.NO_SUCH_VERTEX);
            Expect.due("pathVertex(0, 1, " + index + ")", x.pathVertex(0, 1, index), Calls.NOT_CONNECTED);
            Expect.due("pathVertex(0, 0, " + index + ")", x.pathVertex(0, 0, index), Calls.NONE);
        }
        Expect.due("reach(16, 0, 1)", x.reach(16, 0, 1), Calls.NO_SUCH_VERTEX);
        Expect.due("reach(1, 0, 1)", x.reach(1, 0, 1), Calls.NOT_CONNECTED);
        Expect.due("reach(0, 0, 1)", x.reach(0, 0, 1), Calls.NONE);
    }

    private static void codesAreBelowAllResults() {
        Expect.part("error codes and NONE are less than all other results");
        DynamicForest x = Trees.chain(64);
        x.setOnPath(0, 63, -Calls.LIMIT);
        Expect.due("pathSum(0, 63), the least result", x.pathSum(0, 63), -64000000);
        Expect.due("subtreeSum(0), the least result", x.subtreeSum(0), -64000000);
        int[] codes = {DynamicForest.NO_SUCH_VERTEX, DynamicForest.OUT_OF_RANGE, DynamicForest.NOT_A_ROOT, DynamicForest.NOT_CONNECTED,
            DynamicForest.VALUE_OVERFLOW, DynamicForest.NOT_SAVED, DynamicForest.NONE, DynamicForest.SAME_TREE};
        for (int i = 0; i < codes.length; i++) {
            Expect.due("constant " + i, codes[i], -100000001 - i);
            Expect.due("constant " + i + " is below -64000000", codes[i] < -64000000 ? 1 : 0, 1);
        }
    }

    /** Each n is reached from a smaller and from a greater one, by reset and by restore: nothing of them may stay. */
    private static void verticesAreNumberedBelowN() {
        Expect.part("vertices are numbered 0 to n - 1");
        for (int n : SIZES) {
            for (int before : new int[] {1, 64}) {
                DynamicForest x = Trees.star(before);
                x.reset(n);
                numberedBelow(x, n);
                x.save(0);
                x.reset(before);
                x.restore(0);
                numberedBelow(x, n);
            }
        }
    }

    private static void numberedBelow(DynamicForest x, int n) {
        Expect.due("vertexCount()", x.vertexCount(), n);
        for (int none : new int[] {-1, -n, n, n + 1, 64, 65, Calls.NO_SUCH_VERTEX, Calls.NONE, Calls.MIN, Calls.MAX}) {
            askWithout(x, none);
        }
        for (int v : new int[] {0, n - 1}) {
            Expect.due("value(" + v + ") of " + n, x.value(v), 0);
            for (Map.Entry<String, Calls.OfPair> call : Calls.ofPair().entrySet()) {
                boolean exists = call.getValue().ask(x, v, v) != Calls.NO_SUCH_VERTEX;
                Expect.due(call.getKey() + " finds " + v + " of " + n, exists ? 1 : 0, 1);
            }
            x.setValue(v, 0);
        }
    }

    private static void countIsOneToSixtyFour() {
        Expect.part("n is 1 to 64, initially 16");
        DynamicForest x = new DynamicForest();
        int before = 16;
        for (int n = 1; n <= 64; n++) {
            Expect.due("reset(" + n + ")", x.reset(n), before);
            Expect.due("vertexCount()", x.vertexCount(), n);
            before = n;
        }
        Expect.due("reset(65)", x.reset(65), Calls.OUT_OF_RANGE);
        Expect.due("reset(0)", x.reset(0), Calls.OUT_OF_RANGE);
        Expect.due("vertexCount() at last", x.vertexCount(), 64);
    }

    private static void valuesReachFromLimitToLimit() {
        Expect.part("values are -1000000 to 1000000");
        DynamicForest x = Trees.seven();
        for (int value : new int[] {Calls.LIMIT, -Calls.LIMIT}) {
            int step = value < 0 ? -1 : 1;
            Expect.due("setValue(3, " + value + ")", x.setValue(3, value), 0);
            Expect.due("setValue beyond " + value, x.setValue(3, value + step), Calls.OUT_OF_RANGE);
            Expect.due("value(3)", x.value(3), value);
            x.setValue(3, 0);
            Expect.due("setOnPath(3, 4, " + value + ")", x.setOnPath(3, 4, value), 3);
            Expect.due("setOnPath beyond " + value, x.setOnPath(3, 4, value + step), Calls.OUT_OF_RANGE);
            Expect.due("value(1)", x.value(1), value);
            x.setOnPath(3, 4, 0);
            Expect.due("addOnPath(5, 2, " + value + ")", x.addOnPath(5, 2, value), 2);
            Expect.due("addOnPath beyond " + value, x.addOnPath(5, 2, step), Calls.VALUE_OVERFLOW);
            Expect.due("value(5)", x.value(5), value);
            x.setOnPath(5, 2, 0);
            Expect.due("addInSubtree(0, " + value + ")", x.addInSubtree(0, value), 7);
            Expect.due("addInSubtree beyond " + value, x.addInSubtree(0, step), Calls.VALUE_OVERFLOW);
            Expect.due("value(6)", x.value(6), value);
            Expect.due("addInSubtree back to 0", x.addInSubtree(0, -value), 7);
        }
    }

    /** One vertex at a time is at a limit, in every place of the path and of the subtree. */
    private static void overflowChangesNothing() {
        Expect.part("a value outside of the range: VALUE_OVERFLOW, and nothing changes");
        for (int full = 0; full < 64; full++) {
            for (int step : new int[] {1, -1}) {
                DynamicForest x = Trees.chain(64);
                x.setValue(full, step * Calls.LIMIT);
                String before = Dump.of(x);
                Expect.due("addOnPath(0, 63, " + step + "), " + full + " full", x.addOnPath(0, 63, step), Calls.VALUE_OVERFLOW);
                Expect.due("addOnPath(63, 0, " + step + "), " + full + " full", x.addOnPath(63, 0, step), Calls.VALUE_OVERFLOW);
                Expect.due("addInSubtree(0, " + step + "), " + full + " full", x.addInSubtree(0, step), Calls.VALUE_OVERFLOW);
                Expect.same("after " + step + ", " + full + " full", Dump.of(x), before);
                Expect.due("addOnPath(0, 63, " + -step + "), " + full + " full", x.addOnPath(0, 63, -step), 64);
            }
        }
    }

    private static void noVertexIsItsOwnAncestor() {
        Expect.part("no vertex is its own ancestor");
        DynamicForest x = Trees.chain(64);
        for (int v = 0; v < 64; v++) {
            Expect.due("link(0, " + v + ")", x.link(0, v), Calls.SAME_TREE);
        }
        x.reroot(31);
        for (int v = 0; v < 64; v++) {
            Expect.due("link(31, " + v + ")", x.link(31, v), Calls.SAME_TREE);
        }
        Expect.due("depth(0)", x.depth(0), 31);
        Expect.due("depth(63)", x.depth(63), 32);
    }

    private static void verticesAreRootsAtFirst() {
        Expect.part("initially all vertices are roots, with value 0 and no mark");
        for (int n : SIZES) {
            DynamicForest x = Trees.star(64);
            x.addInSubtree(0, 5);
            x.setMark(n - 1, true);
            x.reset(n);
            Expect.due("treeCount() of " + n, x.treeCount(), n);
            for (int v = 0; v < n; v++) {
                Expect.due("root(" + v + ") of " + n, x.root(v), v);
                Expect.due("value(" + v + ") of " + n, x.value(v), 0);
                Expect.due("mark of " + v + " of " + n, x.setMark(v, false), 0);
            }
        }
    }

    private static void treesHaveOneRoot() {
        Expect.part("the tree of a vertex: all vertices with the same root");
        DynamicForest x = Trees.seven();
        x.link(9, 8);
        for (int u = 0; u < 16; u++) {
            for (int v = 0; v < 16; v++) {
                boolean same = u == v || u < 7 && v < 7 || u + v == 17 && Math.abs(u - v) == 1;
                Expect.due("connected(" + u + ", " + v + ")", x.connected(u, v), same ? 1 : 0);
                Expect.due("same root of " + u + ", " + v, x.root(u) == x.root(v) ? 1 : 0, same ? 1 : 0);
            }
        }
    }

    private static void vertexIsAncestorAndDescendantOfItself() {
        Expect.part("a vertex is an ancestor and a descendant of itself");
        DynamicForest x = Trees.seven(5, -2, 7, 1, 5, -2, 7);
        for (int v = 0; v < 16; v++) {
            Expect.due("commonAncestor of " + v + " with itself", x.commonAncestor(v, v), v);
        }
        Expect.due("commonAncestor(6, 2), an ancestor itself", x.commonAncestor(6, 2), 2);
        Expect.due("subtreeSize(6), a leaf", x.subtreeSize(6), 1);
        Expect.due("subtreeSum(6), a leaf", x.subtreeSum(6), 7);
        Expect.due("addInSubtree(6, 2), a leaf", x.addInSubtree(6, 2), 1);
        Expect.due("value(6)", x.value(6), 9);
    }

    private static void depthCountsOtherAncestors() {
        Expect.part("depth: the ancestors other than the vertex itself");
        DynamicForest x = Trees.chain(64);
        for (int v = 0; v < 64; v++) {
            Expect.due("depth(" + v + ")", x.depth(v), v);
        }
        Expect.due("depth of a single vertex", Trees.chain(1).depth(0), 0);
    }

    private static void pathsExistInOneTreeOnly() {
        Expect.part("the path from u to v exists if both are in the same tree");
        DynamicForest x = Trees.saved();
        x.link(8, 7);
        for (Map.Entry<String, Calls.OfPair> call : Calls.ofPath().entrySet()) {
            for (int v = 0; v < 7; v++) {
                Expect.due(call.getKey() + " of " + v + ", 8", call.getValue().ask(x, v, 8), Calls.NOT_CONNECTED);
                Expect.due(call.getKey() + " of 7, " + v, call.getValue().ask(x, 7, v), Calls.NOT_CONNECTED);
                boolean exists = call.getValue().ask(x, v, v) != Calls.NOT_CONNECTED;
                Expect.due(call.getKey() + " of " + v + " with itself", exists ? 1 : 0, 1);
            }
        }
        x.reset(16);
        Expect.due("two roots", x.distance(0, 1), Calls.NOT_CONNECTED);
    }

    private static void pathsGoUpAndThenDown() {
        Expect.part("the path: up from u to the common ancestor, then down to v, indexed from 0");
        DynamicForest x = Trees.seven();
        int[][] paths = {{3, 1, 4}, {6, 5, 2, 0, 1, 3}, {4, 1, 0, 2, 5}, {0, 2, 5, 6}, {6, 5, 2, 0}, {1, 0, 2}, {5}, {9}, {1, 0}, {0, 1}};
        for (int[] path : paths) {
            int u = path[0];
            int v = path[path.length - 1];
            Expect.due("distance(" + u + ", " + v + "), its edges", x.distance(u, v), path.length - 1);
            for (int i = 0; i < path.length; i++) {
                Expect.due("pathVertex(" + u + ", " + v + ", " + i + ")", x.pathVertex(u, v, i), path[i]);
            }
            Expect.due("behind the path " + u + ", " + v, x.pathVertex(u, v, path.length), Calls.NONE);
            Expect.due("before the path " + u + ", " + v, x.pathVertex(u, v, -1), Calls.NONE);
        }
    }

    private static void ancestorOfGreatestDepth() {
        Expect.part("lowest common ancestor: the one of greatest depth");
        DynamicForest x = Trees.chain(64);
        for (int v = 0; v < 64; v++) {
            Expect.due("commonAncestor(" + v + ", 63)", x.commonAncestor(v, 63), v);
            Expect.due("commonAncestor(63, " + v + ")", x.commonAncestor(63, v), v);
        }
        DynamicForest y = Trees.star(64);
        Expect.due("commonAncestor(1, 63) of a star", y.commonAncestor(1, 63), 0);
        Expect.due("commonAncestor(3, 4) of seven", Trees.seven().commonAncestor(3, 4), 1);
        y.reroot(63);
        Expect.due("commonAncestor(1, 62) below 63", y.commonAncestor(1, 62), 0);
        Expect.due("commonAncestor(1, 63) below 63", y.commonAncestor(1, 63), 63);
    }

    private static void tiesGoToTheSmallestIndex() {
        Expect.part("ties: the one with the smallest index on the path");
        DynamicForest x = Trees.seven();
        for (int u = 0; u < 7; u++) {
            for (int v = 0; v < 7; v++) {
                Expect.due("pathMinimum(" + u + ", " + v + "), all the same", x.pathMinimum(u, v), u);
                Expect.due("pathMaximum(" + u + ", " + v + "), all the same", x.pathMaximum(u, v), u);
            }
        }
        x.setValue(1, 3);
        x.setValue(5, 3);
        x.setValue(0, -3);
        x.setValue(6, -3);
        Expect.due("pathMaximum(3, 6)", x.pathMaximum(3, 6), 1);
        Expect.due("pathMaximum(6, 3)", x.pathMaximum(6, 3), 5);
        Expect.due("pathMinimum(3, 6)", x.pathMinimum(3, 6), 0);
        Expect.due("pathMinimum(6, 3)", x.pathMinimum(6, 3), 6);
    }

    /** The last calls of a full life answer as the first ones do. */
    private static void fiveHundredAndTwelveCalls() {
        Expect.part("an object is used for at most 512 calls");
        DynamicForest x = Trees.chain(64);
        for (int call = 64; call < 508; call += 4) {
            Expect.due("reroot(63) as call " + call, x.reroot(63), 0);
            Expect.due("diameter(31)", x.diameter(31), 63);
            Expect.due("save(0)", x.save(0), 64);
            Expect.due("reroot(0)", x.reroot(0), 63);
        }
        Expect.due("addOnPath(0, 63, 1)", x.addOnPath(0, 63, 1), 64);
        Expect.due("pathSum(0, 63)", x.pathSum(0, 63), 64);
        Expect.due("restore(0)", x.restore(0), 64);
        Expect.due("root(0) as the last call", x.root(0), 63);
    }
}

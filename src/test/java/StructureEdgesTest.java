/** Promises 1 to 11, sentence by sentence: each boundary case that one names, with the sentence as its part. */
public final class StructureEdgesTest {
    public static void main(String[] args) {
        newObjectHasSixteenVertices();
        newObjectHasNothingSaved();
        resetStartsWithNewVertices();
        resetLeavesTheSlots();
        resetTakesOneToSixtyFour();
        resetReturnsThePreviousNumber();
        linkTakesEveryVertexAsParent();
        linkReturnsTheJoinedNumber();
        linkNeedsBothVertices();
        linkNeedsARoot();
        linkNeedsAnotherTree();
        cutReturnsThePreviousParent();
        cutOfARootIsNone();
        rerootTurnsThePath();
        rerootLeavesTheOtherEdges();
        rerootOfTheRoot();
        counts();
        parentOfARootIsNone();
        rootOfEveryVertex();
        depthFromRootToLast();
        connectedIsOneOrZero();
        edgesLeaveValuesAndMarks();
        Expect.finish();
    }

    private static void newObjectHasSixteenVertices() {
        Expect.part("1: 16 vertices, all of them roots with value 0 and without marks");
        DynamicForest x = new DynamicForest();
        Expect.due("vertexCount()", x.vertexCount(), 16);
        Expect.due("treeCount()", x.treeCount(), 16);
        Expect.due("value(-1)", x.value(-1), Calls.NO_SUCH_VERTEX);
        Expect.due("value(16)", x.value(16), Calls.NO_SUCH_VERTEX);
        for (int v = 0; v < 16; v++) {
            Expect.due("parent(" + v + ")", x.parent(v), Calls.NONE);
            Expect.due("value(" + v + ")", x.value(v), 0);
            Expect.due("setMark(" + v + ", true)", x.setMark(v, true), 0);
        }
        Expect.due("reset(5)", x.reset(5), 16);
    }

    private static void newObjectHasNothingSaved() {
        Expect.part("1: nothing saved");
        DynamicForest used = Trees.saved();
        DynamicForest x = new DynamicForest();
        Expect.due("restore(0)", x.restore(0), Calls.NOT_SAVED);
        Expect.due("restore(1)", x.restore(1), Calls.NOT_SAVED);
        Expect.due("vertexCount() after it", x.vertexCount(), 16);
        Expect.due("restore(0) of the used one", used.restore(0), 3);
        Expect.due("restore(1) of the used one", used.restore(1), 64);
        Expect.due("vertexCount() beside the used one", x.vertexCount(), 16);
    }

    private static void resetStartsWithNewVertices() {
        Expect.part("2: all are roots, have the value 0 and no mark");
        for (int n = 1; n <= 64; n++) {
            for (int before : new int[] {1, n, 64}) {
                DynamicForest x = Trees.chain(before);
                x.addInSubtree(0, 7);
                for (int v = 0; v < before; v++) {
                    x.setMark(v, true);
                }
                Expect.due("reset(" + n + ")", x.reset(n), before);
                Expect.same("after reset(" + n + ") of " + before, Dump.of(x), fresh(n));
            }
        }
    }

    private static String fresh(int n) {
        StringBuilder text = new StringBuilder("n " + n + ", trees " + n + ":");
        for (int v = 0; v < n; v++) {
            text.append(' ').append(v).append("^-=0");
        }
        return text.toString();
    }

    private static void resetLeavesTheSlots() {
        Expect.part("2: the save slots do not change");
        for (int n : new int[] {1, 9, 64}) {
            DynamicForest x = Trees.saved();
            Expect.due("reset(" + n + ")", x.reset(n), 9);
            Expect.due("restore(1)", x.restore(1), 64);
            Expect.due("value(63)", x.value(63), 9);
            Expect.due("restore(0)", x.restore(0), 3);
            Expect.due("value(1)", x.value(1), -4);
            DynamicForest y = new DynamicForest();
            y.reset(n);
            Expect.due("restore(0), nothing saved", y.restore(0), Calls.NOT_SAVED);
            Expect.due("restore(1), nothing saved", y.restore(1), Calls.NOT_SAVED);
            Expect.due("vertexCount()", y.vertexCount(), n);
        }
    }

    private static void resetTakesOneToSixtyFour() {
        Expect.part("2: n: 1 to 64; OUT_OF_RANGE if n is out of range");
        for (int n : new int[] {0, -1, -16, 65, 66, 128, 1000, Calls.MAX, Calls.MIN}) {
            DynamicForest x = Trees.saved();
            Expect.due("reset(" + n + ")", x.reset(n), Calls.OUT_OF_RANGE);
            Expect.same("after reset(" + n + ")", Dump.withSlots(x), Dump.withSlots(Trees.saved()));
        }
        DynamicForest y = new DynamicForest();
        Expect.due("reset(1), the least", y.reset(1), 16);
        Expect.due("vertexCount()", y.vertexCount(), 1);
        Expect.due("reset(64), the greatest", y.reset(64), 1);
        Expect.due("vertexCount()", y.vertexCount(), 64);
    }

    private static void resetReturnsThePreviousNumber() {
        Expect.part("2: returns the previous number of vertices");
        DynamicForest x = new DynamicForest();
        Expect.due("reset(64)", x.reset(64), 16);
        Expect.due("reset(0)", x.reset(0), Calls.OUT_OF_RANGE);
        Expect.due("reset(64) again, after a refused one", x.reset(64), 64);
        x.save(0);
        Expect.due("reset(3)", x.reset(3), 64);
        Expect.due("restore(0)", x.restore(0), 64);
        Expect.due("reset(2) after restore", x.reset(2), 64);
    }

    private static void linkTakesEveryVertexAsParent() {
        Expect.part("3: makes a root the child of a vertex of another tree");
        for (int above = 0; above < 7; above++) {
            DynamicForest x = Trees.seven();
            x.link(8, 7);
            Expect.due("link(7, " + above + ")", x.link(7, above), 9);
            Expect.due("parent(7)", x.parent(7), above);
            Expect.due("parent(8)", x.parent(8), 7);
            Expect.due("root(8)", x.root(8), 0);
            Expect.due("treeCount()", x.treeCount(), 8);
        }
        DynamicForest y = Trees.seven();
        Expect.due("link(0, 15), a root of many", y.link(0, 15), 8);
        Expect.due("root(6)", y.root(6), 15);
    }

    private static void linkReturnsTheJoinedNumber() {
        Expect.part("3: returns the number of vertices of the joined tree");
        DynamicForest x = new DynamicForest();
        x.reset(64);
        Expect.due("link(63, 0), the smallest joined tree", x.link(63, 0), 2);
        for (int v = 1; v < 63; v++) {
            Expect.due("link(" + v + ", " + (v - 1) + ")", x.link(v, v - 1), v + 2);
        }
        Expect.due("cut(32)", x.cut(32), 31);
        Expect.due("link(32, 63), the greatest joined tree", x.link(32, 63), 64);
    }

    private static void linkNeedsBothVertices() {
        Expect.part("3: NO_SUCH_VERTEX if either vertex does not exist (checked first)");
        DynamicForest x = Trees.seven();
        for (int v = 0; v < 16; v++) {
            Expect.due("link(" + v + ", 16)", x.link(v, 16), Calls.NO_SUCH_VERTEX);
            Expect.due("link(16, " + v + ")", x.link(16, v), Calls.NO_SUCH_VERTEX);
            Expect.due("link(" + v + ", -1)", x.link(v, -1), Calls.NO_SUCH_VERTEX);
            Expect.due("link(-1, " + v + ")", x.link(-1, v), Calls.NO_SUCH_VERTEX);
        }
        Expect.due("link(16, 16)", x.link(16, 16), Calls.NO_SUCH_VERTEX);
        Expect.due("link(-1, -1)", x.link(-1, -1), Calls.NO_SUCH_VERTEX);
        Expect.due("link(-1, 16)", x.link(-1, 16), Calls.NO_SUCH_VERTEX);
        Expect.due("link(greatest int, least int)", x.link(Calls.MAX, Calls.MIN), Calls.NO_SUCH_VERTEX);
        Expect.same("after refused links", Dump.of(x), Dump.of(Trees.seven()));
    }

    private static void linkNeedsARoot() {
        Expect.part("3: NOT_A_ROOT if child is not a root (checked second)");
        DynamicForest x = Trees.seven();
        for (int child = 1; child < 7; child++) {
            for (int above = 0; above < 16; above++) {
                Expect.due("link(" + child + ", " + above + ")", x.link(child, above), Calls.NOT_A_ROOT);
            }
        }
        Expect.same("after refused links", Dump.of(x), Dump.of(Trees.seven()));
        x.reroot(6);
        Expect.due("link(0, 9), no root any more", x.link(0, 9), Calls.NOT_A_ROOT);
        x.cut(0);
        Expect.due("link(0, 9), a root again", x.link(0, 9), 5);
    }

    private static void linkNeedsAnotherTree() {
        Expect.part("3: SAME_TREE if both are in the same tree (also if they are the same vertex)");
        DynamicForest x = Trees.seven();
        for (int v = 0; v < 7; v++) {
            Expect.due("link(0, " + v + ")", x.link(0, v), Calls.SAME_TREE);
        }
        for (int v = 7; v < 16; v++) {
            Expect.due("link(" + v + ", " + v + ")", x.link(v, v), Calls.SAME_TREE);
        }
        Expect.same("after refused links", Dump.of(x), Dump.of(Trees.seven()));
        Expect.due("the only vertex", Trees.chain(1).link(0, 0), Calls.SAME_TREE);
    }

    private static void cutReturnsThePreviousParent() {
        Expect.part("4: the vertex becomes a root; returns the previous parent");
        int[] parents = {Calls.NONE, 0, 0, 1, 1, 2, 5};
        int[] sizes = {7, 3, 3, 1, 1, 2, 1};
        for (int v = 1; v < 7; v++) {
            DynamicForest x = Trees.seven();
            Expect.due("cut(" + v + ")", x.cut(v), parents[v]);
            Expect.due("parent(" + v + ")", x.parent(v), Calls.NONE);
            Expect.due("treeCount()", x.treeCount(), 11);
            Expect.due("subtreeSize(" + v + ") goes with it", x.subtreeSize(v), sizes[v]);
            Expect.due("subtreeSize(0)", x.subtreeSize(0), 7 - sizes[v]);
            Expect.due("cut(" + v + ") again", x.cut(v), Calls.NONE);
        }
        DynamicForest y = Trees.chain(64);
        Expect.due("cut(63), the last", y.cut(63), 62);
    }

    private static void cutOfARootIsNone() {
        Expect.part("4: NO_SUCH_VERTEX (checked first); NONE if it is a root (nothing changes then)");
        DynamicForest x = Trees.saved();
        for (int root : new int[] {0, 7, 8}) {
            Expect.due("cut(" + root + ")", x.cut(root), Calls.NONE);
        }
        for (int none : new int[] {-1, 9, 64, Calls.MIN, Calls.MAX}) {
            Expect.due("cut(" + none + ")", x.cut(none), Calls.NO_SUCH_VERTEX);
        }
        Expect.same("after them", Dump.withSlots(x), Dump.withSlots(Trees.saved()));
    }

    private static void rerootTurnsThePath() {
        Expect.part("5: every edge on the path from the vertex to the previous root changes its direction");
        for (int top = 0; top < 64; top++) {
            DynamicForest x = Trees.chain(64);
            Expect.due("reroot(" + top + ")", x.reroot(top), 0);
            for (int v = 0; v < 64; v++) {
                int above = v == top ? Calls.NONE : v < top ? v + 1 : v - 1;
                Expect.due("parent(" + v + ") below " + top, x.parent(v), above);
            }
            Expect.due("reroot(0) again", x.reroot(0), top);
            Expect.same("after reroot(0)", Dump.of(x), Dump.of(Trees.chain(64)));
        }
    }

    private static void rerootLeavesTheOtherEdges() {
        Expect.part("5: the edges as such stay");
        int[][] parents = {{-1, 0, 0, 1, 1, 2, 5}, {1, -1, 0, 1, 1, 2, 5}, {2, 0, -1, 1, 1, 2, 5}, {1, 3, 0, -1, 1, 2, 5},
            {1, 4, 0, 1, -1, 2, 5}, {2, 0, 5, 1, 1, -1, 5}, {2, 0, 5, 1, 1, 6, -1}};
        for (int top = 0; top < 7; top++) {
            DynamicForest x = Trees.seven();
            x.link(8, 7);
            Expect.due("reroot(" + top + ")", x.reroot(top), 0);
            for (int v = 0; v < 7; v++) {
                int above = parents[top][v];
                Expect.due("parent(" + v + ") below " + top, x.parent(v), above < 0 ? Calls.NONE : above);
            }
            Expect.due("parent(8), another tree", x.parent(8), 7);
            Expect.due("treeCount()", x.treeCount(), 9);
        }
    }

    private static void rerootOfTheRoot() {
        Expect.part("5: returns the previous root; NO_SUCH_VERTEX if the vertex does not exist");
        DynamicForest x = Trees.saved();
        for (int root : new int[] {0, 7, 8}) {
            Expect.due("reroot(" + root + "), the root itself", x.reroot(root), root);
        }
        for (int none : new int[] {-1, 9, 64, Calls.MIN, Calls.MAX}) {
            Expect.due("reroot(" + none + ")", x.reroot(none), Calls.NO_SUCH_VERTEX);
        }
        Expect.same("after them", Dump.withSlots(x), Dump.withSlots(Trees.saved()));
        Expect.due("the only vertex", Trees.chain(1).reroot(0), 0);
    }

    private static void counts() {
        Expect.part("6, 7: the number of vertices, the number of trees");
        for (int n : new int[] {1, 2, 63, 64}) {
            DynamicForest x = Trees.chain(n);
            Expect.due("vertexCount() of a chain of " + n, x.vertexCount(), n);
            Expect.due("treeCount() of a chain of " + n, x.treeCount(), 1);
            x.reset(n);
            Expect.due("treeCount() of single vertices, " + n, x.treeCount(), n);
            Expect.due("vertexCount() of single vertices, " + n, x.vertexCount(), n);
        }
    }

    private static void parentOfARootIsNone() {
        Expect.part("8: NO_SUCH_VERTEX if it does not exist (checked first); NONE if it is a root");
        DynamicForest x = Trees.chain(64);
        Expect.due("parent(0), the root", x.parent(0), Calls.NONE);
        Expect.due("parent(1), the vertex 0", x.parent(1), 0);
        Expect.due("parent(63), the last", x.parent(63), 62);
        for (int none : new int[] {-1, 64, Calls.NONE, Calls.MIN, Calls.MAX}) {
            Expect.due("parent(" + none + ")", x.parent(none), Calls.NO_SUCH_VERTEX);
        }
    }

    private static void rootOfEveryVertex() {
        Expect.part("9: the root of the tree of a vertex, or NO_SUCH_VERTEX");
        DynamicForest x = Trees.chain(64);
        x.cut(32);
        for (int v = 0; v < 64; v++) {
            Expect.due("root(" + v + ")", x.root(v), v < 32 ? 0 : 32);
        }
        Expect.due("root(-1)", x.root(-1), Calls.NO_SUCH_VERTEX);
        Expect.due("root(64)", x.root(64), Calls.NO_SUCH_VERTEX);
    }

    private static void depthFromRootToLast() {
        Expect.part("10: the depth of a vertex, or NO_SUCH_VERTEX");
        DynamicForest x = Trees.chain(64);
        Expect.due("depth(0), the root", x.depth(0), 0);
        Expect.due("depth(63), the deepest", x.depth(63), 63);
        x.cut(63);
        Expect.due("depth(63), a root", x.depth(63), 0);
        Expect.due("depth(-1)", x.depth(-1), Calls.NO_SUCH_VERTEX);
        Expect.due("depth(64)", x.depth(64), Calls.NO_SUCH_VERTEX);
    }

    private static void connectedIsOneOrZero() {
        Expect.part("11: 1 in the same tree, otherwise 0; NO_SUCH_VERTEX if either does not exist");
        DynamicForest x = Trees.chain(64);
        Expect.due("connected(0, 63)", x.connected(0, 63), 1);
        Expect.due("connected(63, 0)", x.connected(63, 0), 1);
        Expect.due("connected(63, 63)", x.connected(63, 63), 1);
        x.cut(63);
        Expect.due("connected(0, 63) after the cut", x.connected(0, 63), 0);
        Expect.due("connected(62, 63) after the cut", x.connected(62, 63), 0);
        Expect.due("connected(63, 63), alone", x.connected(63, 63), 1);
        Expect.due("connected(63, 64)", x.connected(63, 64), Calls.NO_SUCH_VERTEX);
        Expect.due("connected(64, 63)", x.connected(64, 63), Calls.NO_SUCH_VERTEX);
        Expect.due("connected(64, 64), the same but not there", x.connected(64, 64), Calls.NO_SUCH_VERTEX);
        Expect.due("connected(-1, -1)", x.connected(-1, -1), Calls.NO_SUCH_VERTEX);
    }

    private static void edgesLeaveValuesAndMarks() {
        Expect.part("3 to 5: the edges alone change");
        DynamicForest x = Trees.saved();
        String before = valuesAndMarks(x);
        x.reroot(6);
        Expect.same("after reroot(6)", valuesAndMarks(x), before);
        x.cut(1);
        Expect.same("after cut(1)", valuesAndMarks(x), before);
        x.link(8, 1);
        Expect.same("after link(8, 1)", valuesAndMarks(x), before);
    }

    private static String valuesAndMarks(DynamicForest x) {
        StringBuilder text = new StringBuilder();
        for (int v = 0; v < x.vertexCount(); v++) {
            text.append(x.value(v)).append(Dump.mark(x, v) ? "* " : " ");
        }
        return text.toString();
    }
}

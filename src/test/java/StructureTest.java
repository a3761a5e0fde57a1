/** Promises 1 to 11: a new object, the edges, and what is asked of them. */
public final class StructureTest {
    private static final int NO_SUCH_VERTEX = -100000001, OUT_OF_RANGE = -100000002, NOT_A_ROOT = -100000003;
    private static final int NOT_SAVED = -100000006, NONE = -100000007, SAME_TREE = -100000008;
    private static final int[] NO_VERTICES = {-1, 16, 64, 99, -100000007, Integer.MIN_VALUE, Integer.MAX_VALUE};

    public static void main(String[] args) {
        newObject();
        reset();
        link();
        cut();
        reroot();
        vertexCount();
        treeCount();
        parent();
        root();
        depth();
        connected();
        Expect.finish();
    }

    /** 0 with children 1 and 2, 3 and 4 below 1, 5 below 2; the others alone. */
    private static DynamicForest tree() {
        DynamicForest x = new DynamicForest();
        x.link(1, 0);
        x.link(2, 0);
        x.link(3, 1);
        x.link(4, 1);
        x.link(5, 2);
        return x;
    }

    private static void newObject() {
        Expect.part("promise 1");
        DynamicForest x = new DynamicForest();
        Expect.due("vertexCount()", x.vertexCount(), 16);
        Expect.due("treeCount()", x.treeCount(), 16);
        for (int v = 0; v < 16; v++) {
            Expect.due("parent " + v, x.parent(v), NONE);
            Expect.due("value " + v, x.value(v), 0);
            Expect.due("nearestMarked " + v, x.nearestMarked(v), NONE);
        }
        Expect.due("value(16)", x.value(16), NO_SUCH_VERTEX);
        Expect.due("restore(0)", x.restore(0), NOT_SAVED);
        Expect.due("restore(1)", x.restore(1), NOT_SAVED);
        DynamicForest other = new DynamicForest();
        other.link(1, 0);
        other.setValue(3, 9);
        other.save(0);
        Expect.due("another object's link", x.treeCount(), 16);
        Expect.due("another object's value", x.value(3), 0);
        Expect.due("another object's slot", x.restore(0), NOT_SAVED);
    }

    private static void reset() {
        Expect.part("promise 2");
        DynamicForest x = tree();
        x.setValue(3, 8);
        x.setMark(3, true);
        String before = Dump.of(x);
        for (int n : new int[] {0, -1, 65, 100, Integer.MIN_VALUE, Integer.MAX_VALUE}) {
            Expect.due("reset(" + n + ")", x.reset(n), OUT_OF_RANGE);
        }
        Expect.same("after failing resets", Dump.of(x), before);
        x.save(1);
        Expect.due("reset(64)", x.reset(64), 16);
        Expect.due("treeCount()", x.treeCount(), 64);
        for (int v = 0; v < 64; v++) {
            Expect.due("parent " + v, x.parent(v), NONE);
            Expect.due("value " + v, x.value(v), 0);
            Expect.due("nearestMarked " + v, x.nearestMarked(v), NONE);
        }
        x.setValue(63, 5);
        x.setMark(63, true);
        x.link(63, 62);
        Expect.due("reset(1)", x.reset(1), 64);
        Expect.due("value(1)", x.value(1), NO_SUCH_VERTEX);
        Expect.due("reset(64) again", x.reset(64), 1);
        Expect.due("value(63)", x.value(63), 0);
        Expect.due("parent(63)", x.parent(63), NONE);
        Expect.due("nearestMarked(63)", x.nearestMarked(63), NONE);
        Expect.due("restore(0) after resets", x.restore(0), NOT_SAVED);
        Expect.due("restore(1) after resets", x.restore(1), 16);
        Expect.same("the slot after resets", Dump.of(x), before);
        Expect.due("reset(16) with the same number", x.reset(16), 16);
        Expect.due("treeCount() after it", x.treeCount(), 16);
    }

    private static void link() {
        Expect.part("promise 3");
        DynamicForest x = new DynamicForest();
        Expect.due("link(1, 0)", x.link(1, 0), 2);
        Expect.due("link(2, 1)", x.link(2, 1), 3);
        Expect.due("link(4, 3)", x.link(4, 3), 2);
        Expect.due("link(3, 2)", x.link(3, 2), 5);
        Expect.due("parent(3)", x.parent(3), 2);
        Expect.due("root(4)", x.root(4), 0);
        String before = Dump.of(x);
        for (int none : NO_VERTICES) {
            Expect.due("link(0, " + none + ")", x.link(0, none), NO_SUCH_VERTEX);
            Expect.due("link(" + none + ", 0)", x.link(none, 0), NO_SUCH_VERTEX);
            Expect.due("link(3, " + none + "), 3 no root", x.link(3, none), NO_SUCH_VERTEX);
            Expect.due("link twice " + none, x.link(none, none), NO_SUCH_VERTEX);
        }
        Expect.due("link(3, 3), no root", x.link(3, 3), NOT_A_ROOT);
        Expect.due("link(3, 0), no root and same tree", x.link(3, 0), NOT_A_ROOT);
        Expect.due("link(3, 9), no root", x.link(3, 9), NOT_A_ROOT);
        Expect.due("link(0, 4), own descendant", x.link(0, 4), SAME_TREE);
        Expect.due("link(0, 0)", x.link(0, 0), SAME_TREE);
        Expect.due("link(9, 9)", x.link(9, 9), SAME_TREE);
        Expect.same("after failing links", Dump.of(x), before);
        x.reset(64);
        for (int v = 1; v < 64; v++) {
            Expect.due("chain link " + v, x.link(v, v - 1), v + 1);
        }
        Expect.due("link(0, 63)", x.link(0, 63), SAME_TREE);
    }

    private static void cut() {
        Expect.part("promise 4");
        DynamicForest x = tree();
        String before = Dump.of(x);
        for (int none : NO_VERTICES) {
            Expect.due("cut(" + none + ")", x.cut(none), NO_SUCH_VERTEX);
        }
        Expect.due("cut(0), a root", x.cut(0), NONE);
        Expect.due("cut(9), alone", x.cut(9), NONE);
        Expect.same("after cuts of nothing", Dump.of(x), before);
        Expect.due("cut(1)", x.cut(1), 0);
        Expect.due("parent(1)", x.parent(1), NONE);
        Expect.due("parent(3)", x.parent(3), 1);
        Expect.due("root(4)", x.root(4), 1);
        Expect.due("root(5)", x.root(5), 0);
        Expect.due("treeCount()", x.treeCount(), 12);
        Expect.due("cut(1) again", x.cut(1), NONE);
        Expect.due("cut(5)", x.cut(5), 2);
        Expect.due("link(0, 5) after the cut", x.link(0, 5), 3);
    }

    private static void reroot() {
        Expect.part("promise 5");
        DynamicForest x = tree();
        String before = Dump.of(x);
        for (int none : NO_VERTICES) {
            Expect.due("reroot(" + none + ")", x.reroot(none), NO_SUCH_VERTEX);
        }
        Expect.due("reroot(0), the root", x.reroot(0), 0);
        Expect.due("reroot(7), alone", x.reroot(7), 7);
        Expect.same("after reroots without an effect", Dump.of(x), before);
        x.setValue(1, 6);
        x.setMark(3, true);
        Expect.due("reroot(3)", x.reroot(3), 0);
        Expect.same("after reroot(3)", Dump.of(x).substring(0, 50),
            "n 16, trees 11: 0^1=0 1^3=6 2^0=0 3^-=0* 4^1=0 5^2=0 6^-=0".substring(0, 50));
        Expect.due("reroot(5)", x.reroot(5), 3);
        int[] parents = {2, 0, 5, 1, 1, NONE};
        for (int v = 0; v < 6; v++) {
            Expect.due("parent(" + v + ")", x.parent(v), parents[v]);
        }
        Expect.due("reroot(0) again", x.reroot(0), 5);
        Expect.due("parent(5)", x.parent(5), 2);
        x.reset(64);
        for (int v = 1; v < 64; v++) {
            x.link(v, v - 1);
        }
        Expect.due("reroot(63) of a chain", x.reroot(63), 0);
        Expect.due("depth(0)", x.depth(0), 63);
        Expect.due("parent(0)", x.parent(0), 1);
        Expect.due("parent(62)", x.parent(62), 63);
        Expect.due("root(0)", x.root(0), 63);
    }

    private static void vertexCount() {
        Expect.part("promise 6");
        DynamicForest x = tree();
        Expect.due("vertexCount()", x.vertexCount(), 16);
        x.reset(1);
        Expect.due("vertexCount() of one", x.vertexCount(), 1);
        x.reset(64);
        Expect.due("vertexCount() of 64", x.vertexCount(), 64);
        x.reset(65);
        Expect.due("vertexCount() after a failing reset", x.vertexCount(), 64);
    }

    private static void treeCount() {
        Expect.part("promise 7");
        DynamicForest x = tree();
        Expect.due("treeCount()", x.treeCount(), 11);
        x.cut(3);
        Expect.due("treeCount() after a cut", x.treeCount(), 12);
        x.reroot(5);
        Expect.due("treeCount() after a reroot", x.treeCount(), 12);
        x.link(3, 9);
        Expect.due("treeCount() after a link", x.treeCount(), 11);
        x.reset(1);
        Expect.due("treeCount() of one vertex", x.treeCount(), 1);
    }

    private static void parent() {
        Expect.part("promise 8");
        DynamicForest x = tree();
        int[] parents = {NONE, 0, 0, 1, 1, 2, NONE};
        for (int v = 0; v < 7; v++) {
            Expect.due("parent(" + v + ")", x.parent(v), parents[v]);
        }
        for (int none : NO_VERTICES) {
            Expect.due("parent(" + none + ")", x.parent(none), NO_SUCH_VERTEX);
        }
    }

    private static void root() {
        Expect.part("promise 9");
        DynamicForest x = tree();
        for (int v = 0; v < 16; v++) {
            Expect.due("root(" + v + ")", x.root(v), v < 6 ? 0 : v);
        }
        for (int none : NO_VERTICES) {
            Expect.due("root(" + none + ")", x.root(none), NO_SUCH_VERTEX);
        }
    }

    private static void depth() {
        Expect.part("promise 10");
        DynamicForest x = tree();
        int[] depths = {0, 1, 1, 2, 2, 2, 0};
        for (int v = 0; v < 7; v++) {
            Expect.due("depth(" + v + ")", x.depth(v), depths[v]);
        }
        for (int none : NO_VERTICES) {
            Expect.due("depth(" + none + ")", x.depth(none), NO_SUCH_VERTEX);
        }
        x.reset(64);
        for (int v = 62; v >= 0; v--) {
            x.link(v + 1, v);
        }
        Expect.due("depth(63) of a chain", x.depth(63), 63);
    }

    private static void connected() {
        Expect.part("promise 11");
        DynamicForest x = tree();
        Expect.due("connected(3, 5)", x.connected(3, 5), 1);
        Expect.due("connected(5, 0)", x.connected(5, 0), 1);
        Expect.due("connected(3, 3)", x.connected(3, 3), 1);
        Expect.due("connected(9, 9)", x.connected(9, 9), 1);
        Expect.due("connected(8, 9)", x.connected(8, 9), 0);
        Expect.due("connected(3, 9)", x.connected(3, 9), 0);
        for (int none : NO_VERTICES) {
            Expect.due("connected(0, " + none + ")", x.connected(0, none), NO_SUCH_VERTEX);
            Expect.due("connected(" + none + ", 0)", x.connected(none, 0), NO_SUCH_VERTEX);
            Expect.due("connected twice " + none, x.connected(none, none), NO_SUCH_VERTEX);
        }
    }
}

/** Forests that several tests begin with. */
final class Trees {
    private Trees() {
    }

    /** 0 with children 1 and 2, 3 and 4 below 1, 5 below 2, 6 below 5; the other nine are alone. */
    static DynamicForest seven(int... values) {
        DynamicForest x = new DynamicForest();
        int[] parents = {0, 0, 0, 1, 1, 2, 5};
        for (int v = 1; v < parents.length; v++) {
            x.link(v, parents[v]);
        }
        for (int v = 0; v < values.length; v++) {
            x.setValue(v, values[v]);
        }
        return x;
    }

    /** Vertex 0 is the root, each other one is the child of the one before it. */
    static DynamicForest chain(int n) {
        DynamicForest x = new DynamicForest();
        x.reset(n);
        for (int v = 1; v < n; v++) {
            x.link(v, v - 1);
        }
        return x;
    }

    /** Vertex 0 is the parent of all others. */
    static DynamicForest star(int n) {
        DynamicForest x = new DynamicForest();
        x.reset(n);
        for (int v = 1; v < n; v++) {
            x.link(v, 0);
        }
        return x;
    }

    /** Three trees below 0, 7 and 8, with values at the limits, marks, and something else in each slot. */
    static DynamicForest saved() {
        DynamicForest x = chain(64);
        x.setMark(63, true);
        x.setOnPath(0, 63, 9);
        x.save(1);
        x.reset(3);
        x.link(0, 2);
        x.setValue(1, -4);
        x.setMark(0, true);
        x.save(0);
        x.reset(9);
        int[] parents = {0, 0, 0, 1, 1, 2, 5};
        for (int v = 1; v < parents.length; v++) {
            x.link(v, parents[v]);
            x.setValue(v, v);
        }
        x.setValue(6, 1000000);
        x.setValue(4, -1000000);
        x.setMark(4, true);
        x.setMark(8, true);
        return x;
    }
}

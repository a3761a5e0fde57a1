/** Long runs of calls on the class and on the model; after every call both must show the same. */
public final class ModelTest {
    private static final int RUNS = 300, CALLS = 512;
    private static final String[] PATH_CALLS = {"distance", "pathVertex", "pathSum", "pathMinimum", "pathMaximum", "reach", "addOnPath", "setOnPath", "reverseValues"};
    private static final int[] EDGES = {0, 1, -1, 16, 63, 64, 65, 1000000, -1000000, 1000001, -1000001, -100000007, Integer.MAX_VALUE, Integer.MIN_VALUE};

    private static long seed;

    public static void main(String[] args) {
        for (int run = 0; run < RUNS; run++) {
            Expect.part("run " + run);
            seed = run * 7919L + 17;
            run(run % 3);
        }
        Expect.finish();
    }

    private static void run(int kind) {
        DynamicForest x = new DynamicForest();
        Model model = new Model();
        int n = kind == 0 ? 16 : kind == 1 ? 64 : 1 + below(12);
        if (kind != 0) {
            Expect.due("reset(" + n + ")", x.reset(n), model.reset(n));
        }
        for (int call = 0; call < CALLS; call++) {
            // New forests are mostly roots, on which most calls say little.
            boolean grow = call < 2 * n || below(4) == 0;
            call(x, model, grow ? 1 : below(30));
            Expect.same("state after call " + call, Dump.of(x), model.dump());
        }
    }

    private static int below(int bound) {
        seed = seed * 6364136223846793005L + 1442695040888963407L;
        return (int) ((seed >>> 33) % bound);
    }

    private static int vertex(Model model) {
        return below(40) == 0 ? EDGES[below(EDGES.length)] : below(model.vertexCount() + (below(20) == 0 ? 2 : 0));
    }

    private static int number() {
        return switch (below(8)) {
            case 0 -> EDGES[below(EDGES.length)];
            case 1 -> below(2000001) - 1000000;
            default -> below(11) - 4;
        };
    }

    private static void call(DynamicForest x, Model m, int which) {
        int u = vertex(m);
        int v = vertex(m);
        int a = number();
        boolean on = below(2) == 0;
        String with = " with " + u + ", " + v + ", " + a + ", " + on;
        switch (which) {
            case 0 -> due("reset" + with, below(12) != 0 ? new int[] {0, 0} : new int[] {x.reset(a + 5), m.reset(a + 5)});
            case 1 -> Expect.due("link" + with, x.link(u, v), m.link(u, v));
            case 2 -> Expect.due("cut" + with, x.cut(u), m.cut(u));
            case 3 -> Expect.due("reroot" + with, x.reroot(u), m.reroot(u));
            case 4 -> Expect.due("vertexCount", x.vertexCount(), m.vertexCount());
            case 5 -> Expect.due("treeCount", x.treeCount(), m.treeCount());
            case 6 -> Expect.due("parent" + with, x.parent(u), m.parent(u));
            case 7 -> Expect.due("root" + with, x.root(u), m.root(u));
            case 8 -> Expect.due("depth" + with, x.depth(u), m.depth(u));
            case 9 -> Expect.due("connected" + with, x.connected(u, v), m.connected(u, v));
            case 10 -> Expect.due("commonAncestor" + with, x.commonAncestor(u, v), m.commonAncestor(u, v));
            case 11 -> Expect.due("subtreeSize" + with, x.subtreeSize(u), m.subtreeSize(u));
            case 12 -> Expect.due("subtreeSum" + with, x.subtreeSum(u), m.subtreeSum(u));
            case 13 -> Expect.due("addInSubtree" + with, x.addInSubtree(u, a), m.addInSubtree(u, a));
            case 14 -> Expect.due("diameter" + with, x.diameter(u), m.diameter(u));
            case 15 -> Expect.due("setValue" + with, x.setValue(u, a), m.setValue(u, a));
            case 16 -> Expect.due("value" + with, x.value(u), m.value(u));
            case 17 -> Expect.due("setMark" + with, x.setMark(u, on), m.setMark(u, on));
            case 18 -> Expect.due("nearestMarked" + with, x.nearestMarked(u), m.nearestMarked(u));
            case 19 -> Expect.due("save " + a, x.save(a), m.save(a));
            case 20 -> Expect.due("restore " + a, x.restore(a), m.restore(a));
            default -> onPath(x, m, PATH_CALLS[which - 21], new int[] {u, v, a});
        }
    }

    private static void due(String call, int[] answers) {
        Expect.due(call, answers[0], answers[1]);
    }

    private static void onPath(DynamicForest x, Model m, String call, int[] a) {
        int answer = switch (call) {
            case "distance" -> x.distance(a[0], a[1]);
            case "pathVertex" -> x.pathVertex(a[0], a[1], a[2]);
            case "pathSum" -> x.pathSum(a[0], a[1]);
            case "pathMinimum" -> x.pathMinimum(a[0], a[1]);
            case "pathMaximum" -> x.pathMaximum(a[0], a[1]);
            case "reach" -> x.reach(a[0], a[1], a[2]);
            case "addOnPath" -> x.addOnPath(a[0], a[1], a[2]);
            case "setOnPath" -> x.setOnPath(a[0], a[1], a[2]);
            default -> x.reverseValues(a[0], a[1]);
        };
        Expect.due(call + "(" + a[0] + ", " + a[1] + ", " + a[2] + ")", answer, m.onPath(call, a[0], a[1], a[2]));
    }
}

import java.util.LinkedHashMap;
import java.util.Map;

/** Every call of the face that names vertices, by its text, so that a rule for all of them can be asked of each. */
final class Calls {
    static final int NO_SUCH_VERTEX = -100000001, OUT_OF_RANGE = -100000002, NOT_A_ROOT = -100000003, NOT_CONNECTED = -100000004;
    static final int VALUE_OVERFLOW = -100000005, NOT_SAVED = -100000006, NONE = -100000007, SAME_TREE = -100000008;
    static final int LIMIT = 1000000, MIN = Integer.MIN_VALUE, MAX = Integer.MAX_VALUE;

    /** Numbers just outside of the range of values, and the ones at which an int wraps around. */
    static final int[] NO_VALUES = {LIMIT + 1, -LIMIT - 1, MAX, MIN, MAX - LIMIT, MIN + LIMIT};

    interface OfVertex {
        int ask(DynamicForest x, int vertex);
    }

    interface OfPair {
        int ask(DynamicForest x, int u, int v);
    }

    private Calls() {
    }

    static Map<String, OfVertex> ofVertex() {
        Map<String, OfVertex> calls = new LinkedHashMap<>();
        calls.put("cut", DynamicForest::cut);
        calls.put("reroot", DynamicForest::reroot);
        calls.put("parent", DynamicForest::parent);
        calls.put("root", DynamicForest::root);
        calls.put("depth", DynamicForest::depth);
        calls.put("subtreeSize", DynamicForest::subtreeSize);
        calls.put("subtreeSum", DynamicForest::subtreeSum);
        calls.put("diameter", DynamicForest::diameter);
        calls.put("value", DynamicForest::value);
        calls.put("nearestMarked", DynamicForest::nearestMarked);
        calls.put("setMark true", (x, v) -> x.setMark(v, true));
        calls.put("setMark false", (x, v) -> x.setMark(v, false));
        for (int number : new int[] {0, 1, LIMIT + 1, -LIMIT - 1, MIN, MAX}) {
            calls.put("addInSubtree by " + number, (x, v) -> x.addInSubtree(v, number));
            calls.put("setValue to " + number, (x, v) -> x.setValue(v, number));
        }
        return calls;
    }

    /** Those of promises 12 to 21, whose first errors are those of commonAncestor. */
    static Map<String, OfPair> ofPath() {
        Map<String, OfPair> calls = new LinkedHashMap<>();
        calls.put("commonAncestor", DynamicForest::commonAncestor);
        calls.put("distance", DynamicForest::distance);
        calls.put("pathSum", DynamicForest::pathSum);
        calls.put("pathMinimum", DynamicForest::pathMinimum);
        calls.put("pathMaximum", DynamicForest::pathMaximum);
        calls.put("reverseValues", DynamicForest::reverseValues);
        for (int number : new int[] {0, 1, -1, 64, LIMIT + 1, -LIMIT - 1, MIN, MAX}) {
            calls.put("pathVertex at " + number, (x, u, v) -> x.pathVertex(u, v, number));
            calls.put("reach of " + number, (x, u, v) -> x.reach(u, v, number));
            calls.put("addOnPath by " + number, (x, u, v) -> x.addOnPath(u, v, number));
            calls.put("setOnPath to " + number, (x, u, v) -> x.setOnPath(u, v, number));
        }
        return calls;
    }

    static Map<String, OfPair> ofPair() {
        Map<String, OfPair> calls = ofPath();
        calls.put("link", DynamicForest::link);
        calls.put("connected", DynamicForest::connected);
        return calls;
    }
}

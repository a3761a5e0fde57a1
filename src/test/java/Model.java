import java.util.ArrayList;
import java.util.Arrays;
import java.util.List;

/**
 * The document once more, in another way: every answer comes from whole lists of ancestors,
 * so that a fault of the class is unlikely to be made here as well.
 */
final class Model {
    private static final int NO_SUCH_VERTEX = -100000001, OUT_OF_RANGE = -100000002, NOT_A_ROOT = -100000003;
    private static final int NOT_CONNECTED = -100000004, VALUE_OVERFLOW = -100000005, NOT_SAVED = -100000006;
    private static final int NONE = -100000007, SAME_TREE = -100000008, LIMIT = 1000000;

    private record State(Integer[] parent, int[] value, boolean[] mark) {
        State copy() {
            return new State(parent.clone(), value.clone(), mark.clone());
        }
    }

    private State now = empty(16);
    private final State[] slots = new State[2];

    private static State empty(int n) {
        return new State(new Integer[n], new int[n], new boolean[n]);
    }

    int vertexCount() {
        return now.value.length;
    }

    private boolean lacks(int... vertices) {
        return Arrays.stream(vertices).anyMatch(v -> v < 0 || v >= vertexCount());
    }

    private static boolean outside(long value) {
        return Math.abs(value) > LIMIT;
    }

    /** The vertex first, its root last. */
    private List<Integer> ancestors(int vertex) {
        List<Integer> line = new ArrayList<>();
        for (Integer at = vertex; at != null; at = now.parent[at]) {
            line.add(at);
        }
        return line;
    }

    private int top(int vertex) {
        List<Integer> line = ancestors(vertex);
        return line.get(line.size() - 1);
    }

    private List<Integer> tree(int vertex) {
        List<Integer> members = new ArrayList<>();
        for (int v = 0; v < vertexCount(); v++) {
            if (top(v) == top(vertex)) {
                members.add(v);
            }
        }
        return members;
    }

    private List<Integer> subtree(int vertex) {
        List<Integer> members = new ArrayList<>();
        for (int v = 0; v < vertexCount(); v++) {
            if (ancestors(v).contains(vertex)) {
                members.add(v);
            }
        }
        return members;
    }

    private int meet(int u, int v) {
        List<Integer> other = ancestors(v);
        return ancestors(u).stream().filter(other::contains).findFirst().orElseThrow();
    }

    private List<Integer> path(int u, int v) {
        List<Integer> way = new ArrayList<>();
        List<Integer> up = ancestors(u);
        List<Integer> down = ancestors(v);
        int meet = meet(u, v);
        way.addAll(up.subList(0, up.indexOf(meet) + 1));
        for (int i = down.indexOf(meet) - 1; i >= 0; i--) {
            way.add(down.get(i));
        }
        return way;
    }

    private int sum(List<Integer> vertices) {
        return vertices.stream().mapToInt(v -> now.value[v]).sum();
    }

    private int add(List<Integer> vertices, int delta) {
        if (vertices.stream().anyMatch(v -> outside((long) now.value[v] + delta))) {
            return VALUE_OVERFLOW;
        }
        vertices.forEach(v -> now.value[v] += delta);
        return vertices.size();
    }

    int reset(int n) {
        if (n < 1 || n > 64) {
            return OUT_OF_RANGE;
        }
        int before = vertexCount();
        now = empty(n);
        return before;
    }

    int link(int child, int parent) {
        if (lacks(child, parent)) {
            return NO_SUCH_VERTEX;
        }
        if (now.parent[child] != null) {
            return NOT_A_ROOT;
        }
        if (tree(child).contains(parent)) {
            return SAME_TREE;
        }
        int size = tree(child).size() + tree(parent).size();
        now.parent[child] = parent;
        return size;
    }

    int cut(int vertex) {
        int before = parent(vertex);
        if (before >= 0) {
            now.parent[vertex] = null;
        }
        return before;
    }

    int reroot(int vertex) {
        if (lacks(vertex)) {
            return NO_SUCH_VERTEX;
        }
        List<Integer> line = ancestors(vertex);
        for (int i = 1; i < line.size(); i++) {
            now.parent[line.get(i)] = line.get(i - 1);
        }
        now.parent[vertex] = null;
        return line.get(line.size() - 1);
    }

    int treeCount() {
        return (int) Arrays.stream(now.parent).filter(p -> p == null).count();
    }

    int parent(int vertex) {
        if (lacks(vertex)) {
            return NO_SUCH_VERTEX;
        }
        return now.parent[vertex] == null ? NONE : now.parent[vertex];
    }

    int root(int vertex) {
        return lacks(vertex) ? NO_SUCH_VERTEX : top(vertex);
    }

    int depth(int vertex) {
        return lacks(vertex) ? NO_SUCH_VERTEX : ancestors(vertex).size() - 1;
    }

    int connected(int u, int v) {
        return lacks(u, v) ? NO_SUCH_VERTEX : top(u) == top(v) ? 1 : 0;
    }

    int commonAncestor(int u, int v) {
        int joined = connected(u, v);
        return joined < 0 ? joined : joined == 0 ? NOT_CONNECTED : meet(u, v);
    }

    /** The calls on a path that exists; number is the index, the bound, the delta or the value. */
    int onPath(String call, int u, int v, int number) {
        int error = commonAncestor(u, v);
        if (error < 0) {
            return error;
        }
        List<Integer> way = path(u, v);
        switch (call) {
            case "distance":
                return way.size() - 1;
            case "pathVertex":
                return number < 0 || number >= way.size() ? NONE : way.get(number);
            case "pathSum":
                return sum(way);
            case "pathMinimum":
                int least = way.stream().mapToInt(w -> now.value[w]).min().orElseThrow();
                return way.stream().filter(w -> now.value[w] == least).findFirst().orElseThrow();
            case "pathMaximum":
                int most = way.stream().mapToInt(w -> now.value[w]).max().orElseThrow();
                return way.stream().filter(w -> now.value[w] == most).findFirst().orElseThrow();
            case "reach":
                for (int i = 0; i < way.size(); i++) {
                    if (sum(way.subList(0, i + 1)) >= number) {
                        return way.get(i);
                    }
                }
                return NONE;
            case "addOnPath":
                return outside(number) ? OUT_OF_RANGE : add(way, number);
            case "setOnPath":
                if (outside(number)) {
                    return OUT_OF_RANGE;
                }
                way.forEach(w -> now.value[w] = number);
                return way.size();
            default:
                int[] before = way.stream().mapToInt(w -> now.value[w]).toArray();
                for (int i = 0; i < before.length; i++) {
                    now.value[way.get(i)] = before[before.length - 1 - i];
                }
                return way.size();
        }
    }

    int subtreeSize(int vertex) {
        return lacks(vertex) ? NO_SUCH_VERTEX : subtree(vertex).size();
    }

    int subtreeSum(int vertex) {
        return lacks(vertex) ? NO_SUCH_VERTEX : sum(subtree(vertex));
    }

    int addInSubtree(int vertex, int delta) {
        if (lacks(vertex)) {
            return NO_SUCH_VERTEX;
        }
        return outside(delta) ? OUT_OF_RANGE : add(subtree(vertex), delta);
    }

    int diameter(int vertex) {
        if (lacks(vertex)) {
            return NO_SUCH_VERTEX;
        }
        int longest = 0;
        for (int u : tree(vertex)) {
            for (int v : tree(vertex)) {
                longest = Math.max(longest, path(u, v).size() - 1);
            }
        }
        return longest;
    }

    int setValue(int vertex, int value) {
        if (lacks(vertex)) {
            return NO_SUCH_VERTEX;
        }
        if (outside(value)) {
            return OUT_OF_RANGE;
        }
        int before = now.value[vertex];
        now.value[vertex] = value;
        return before;
    }

    int value(int vertex) {
        return lacks(vertex) ? NO_SUCH_VERTEX : now.value[vertex];
    }

    int setMark(int vertex, boolean on) {
        if (lacks(vertex)) {
            return NO_SUCH_VERTEX;
        }
        int before = now.mark[vertex] ? 1 : 0;
        now.mark[vertex] = on;
        return before;
    }

    int nearestMarked(int vertex) {
        if (lacks(vertex)) {
            return NO_SUCH_VERTEX;
        }
        for (int length = 1; length <= 64; length++) {
            for (int v : tree(vertex)) {
                if (now.mark[v] && path(vertex, v).size() == length) {
                    return v;
                }
            }
        }
        return NONE;
    }

    int save(int slot) {
        if (slot != 0 && slot != 1) {
            return OUT_OF_RANGE;
        }
        slots[slot] = now.copy();
        return vertexCount();
    }

    int restore(int slot) {
        if (slot != 0 && slot != 1) {
            return OUT_OF_RANGE;
        }
        if (slots[slot] == null) {
            return NOT_SAVED;
        }
        now = slots[slot].copy();
        return vertexCount();
    }

    /** In the form of Dump. */
    String dump() {
        StringBuilder text = new StringBuilder("n " + vertexCount() + ", trees " + treeCount() + ":");
        for (int v = 0; v < vertexCount(); v++) {
            text.append(" " + v + "^" + (now.parent[v] == null ? "-" : now.parent[v]) + "=" + now.value[v] + (now.mark[v] ? "*" : ""));
        }
        return text.toString();
    }
}

/**
 * A forest of rooted, weighted trees whose edges, values and marks change.
 * Every call answers with a number; error codes are the constants below.
 */
public final class DynamicForest {
    public static final int NO_SUCH_VERTEX = -100000001, OUT_OF_RANGE = -100000002, NOT_A_ROOT = -100000003, NOT_CONNECTED = -100000004, VALUE_OVERFLOW = -100000005, NOT_SAVED = -100000006, NONE = -100000007, SAME_TREE = -100000008;

    private static final int MAX_VERTICES = 64;
    private static final int INITIAL_VERTICES = 16;
    private static final int VALUE_LIMIT = 1000000;
    private static final int NO_VERTEX = -1;
    private static final int NO_ERROR = 0;

    private final Forest forest;
    private final Forest firstSlot;
    private final Forest secondSlot;
    // One path for all calls, so that no call makes a new row.
    private final Path path;

    public DynamicForest() {
        forest = new Forest();
        firstSlot = new Forest();
        secondSlot = new Forest();
        path = new Path();
        forest.startAnew(INITIAL_VERTICES);
    }

    public int reset(int n) {
        if (n < 1 || n > MAX_VERTICES) {
            return OUT_OF_RANGE;
        }
        int previous = forest.size();
        forest.startAnew(n);
        return previous;
    }

    public int link(int child, int parent) {
        if (!forest.has(child) || !forest.has(parent)) {
            return NO_SUCH_VERTEX;
        }
        if (!forest.isRoot(child)) {
            return NOT_A_ROOT;
        }
        if (forest.rootOf(parent) == child) {
            return SAME_TREE;
        }
        forest.putParent(child, parent);
        return forest.countBelow(forest.rootOf(parent));
    }

    public int cut(int vertex) {
        if (!forest.has(vertex)) {
            return NO_SUCH_VERTEX;
        }
        if (forest.isRoot(vertex)) {
            return NONE;
        }
        int previous = forest.parentOf(vertex);
        forest.putParent(vertex, NO_VERTEX);
        return previous;
    }

    public int reroot(int vertex) {
        if (!forest.has(vertex)) {
            return NO_SUCH_VERTEX;
        }
        int previous = forest.rootOf(vertex);
        forest.turnTowards(vertex);
        return previous;
    }

    public int vertexCount() {
        return forest.size();
    }

    public int treeCount() {
        return forest.countRoots();
    }

    public int parent(int vertex) {
        if (!forest.has(vertex)) {
            return NO_SUCH_VERTEX;
        }
        return forest.isRoot(vertex) ? NONE : forest.parentOf(vertex);
    }

    public int root(int vertex) {
        return forest.has(vertex) ? forest.rootOf(vertex) : NO_SUCH_VERTEX;
    }

    public int depth(int vertex) {
        return forest.has(vertex) ? forest.depthOf(vertex) : NO_SUCH_VERTEX;
    }

    public int connected(int u, int v) {
        if (!forest.has(u) || !forest.has(v)) {
            return NO_SUCH_VERTEX;
        }
        return forest.rootOf(u) == forest.rootOf(v) ? 1 : 0;
    }

    public int commonAncestor(int u, int v) {
        int error = pathError(u, v);
        return error != NO_ERROR ? error : forest.meetingPoint(u, v);
    }

    public int distance(int u, int v) {
        int error = pathError(u, v);
        return error != NO_ERROR ? error : forest.edgesBetween(u, v);
    }

    public int pathVertex(int u, int v, int index) {
        int error = tracePath(u, v);
        if (error != NO_ERROR) {
            return error;
        }
        return path.hasIndex(index) ? path.vertexAt(index) : NONE;
    }

    public int pathSum(int u, int v) {
        int error = tracePath(u, v);
        if (error != NO_ERROR) {
            return error;
        }
        int sum = 0;
        for (int i = 0; i < path.length(); i++) {
            sum += forest.valueOf(path.vertexAt(i));
        }
        return sum;
    }

    public int pathMinimum(int u, int v) {
        int error = tracePath(u, v);
        if (error != NO_ERROR) {
            return error;
        }
        int best = u;
        for (int i = 1; i < path.length(); i++) {
            if (forest.valueOf(path.vertexAt(i)) < forest.valueOf(best)) {
                best = path.vertexAt(i);
            }
        }
        return best;
    }

    public int pathMaximum(int u, int v) {
        int error = tracePath(u, v);
        if (error != NO_ERROR) {
            return error;
        }
        int best = u;
        for (int i = 1; i < path.length(); i++) {
            if (forest.valueOf(path.vertexAt(i)) > forest.valueOf(best)) {
                best = path.vertexAt(i);
            }
        }
        return best;
    }

    public int reach(int u, int v, int bound) {
        int error = tracePath(u, v);
        if (error != NO_ERROR) {
            return error;
        }
        int sum = 0;
        for (int i = 0; i < path.length(); i++) {
            sum += forest.valueOf(path.vertexAt(i));
            if (sum >= bound) {
                return path.vertexAt(i);
            }
        }
        return NONE;
    }

    public int addOnPath(int u, int v, int delta) {
        int error = tracePath(u, v);
        if (error != NO_ERROR) {
            return error;
        }
        if (!isValue(delta)) {
            return OUT_OF_RANGE;
        }
        // All are looked at before the first one changes: a failing call changes nothing.
        for (int i = 0; i < path.length(); i++) {
            if (!isValue(forest.valueOf(path.vertexAt(i)) + delta)) {
                return VALUE_OVERFLOW;
            }
        }
        for (int i = 0; i < path.length(); i++) {
            int vertex = path.vertexAt(i);
            forest.putValue(vertex, forest.valueOf(vertex) + delta);
        }
        return path.length();
    }

    public int setOnPath(int u, int v, int value) {
        int error = tracePath(u, v);
        if (error != NO_ERROR) {
            return error;
        }
        if (!isValue(value)) {
            return OUT_OF_RANGE;
        }
        for (int i = 0; i < path.length(); i++) {
            forest.putValue(path.vertexAt(i), value);
        }
        return path.length();
    }

    public int reverseValues(int u, int v) {
        int error = tracePath(u, v);
        if (error != NO_ERROR) {
            return error;
        }
        int low = 0;
        for (int high = path.length() - 1; high > low; high--) {
            forest.swapValues(path.vertexAt(low), path.vertexAt(high));
            low++;
        }
        return path.length();
    }

    public int subtreeSize(int vertex) {
        return forest.has(vertex) ? forest.countBelow(vertex) : NO_SUCH_VERTEX;
    }

    public int subtreeSum(int vertex) {
        if (!forest.has(vertex)) {
            return NO_SUCH_VERTEX;
        }
        int sum = 0;
        for (int v = 0; v < forest.size(); v++) {
            if (forest.isBelow(v, vertex)) {
                sum += forest.valueOf(v);
            }
        }
        return sum;
    }

    public int addInSubtree(int vertex, int delta) {
        if (!forest.has(vertex)) {
            return NO_SUCH_VERTEX;
        }
        if (!isValue(delta)) {
            return OUT_OF_RANGE;
        }
        // All are looked at before the first one changes: a failing call changes nothing.
        for (int v = 0; v < forest.size(); v++) {
            if (forest.isBelow(v, vertex) && !isValue(forest.valueOf(v) + delta)) {
                return VALUE_OVERFLOW;
            }
        }
        for (int v = 0; v < forest.size(); v++) {
            if (forest.isBelow(v, vertex)) {
                forest.putValue(v, forest.valueOf(v) + delta);
            }
        }
        return forest.countBelow(vertex);
    }

    public int diameter(int vertex) {
        if (!forest.has(vertex)) {
            return NO_SUCH_VERTEX;
        }
        // In a tree, a vertex farthest from any vertex is an end of a longest path.
        int end = forest.farthestFrom(vertex);
        return forest.edgesBetween(end, forest.farthestFrom(end));
    }

    public int setValue(int vertex, int value) {
        if (!forest.has(vertex)) {
            return NO_SUCH_VERTEX;
        }
        if (!isValue(value)) {
            return OUT_OF_RANGE;
        }
        int previous = forest.valueOf(vertex);
        forest.putValue(vertex, value);
        return previous;
    }

    public int value(int vertex) {
        return forest.has(vertex) ? forest.valueOf(vertex) : NO_SUCH_VERTEX;
    }

    public int setMark(int vertex, boolean on) {
        if (!forest.has(vertex)) {
            return NO_SUCH_VERTEX;
        }
        int previous = forest.isMarked(vertex) ? 1 : 0;
        forest.putMark(vertex, on);
        return previous;
    }

    public int nearestMarked(int vertex) {
        if (!forest.has(vertex)) {
            return NO_SUCH_VERTEX;
        }
        int nearest = forest.nearestMarkOf(vertex);
        return nearest == NO_VERTEX ? NONE : nearest;
    }

    public int save(int slot) {
        if (!isSlot(slot)) {
            return OUT_OF_RANGE;
        }
        slotAt(slot).copyFrom(forest);
        return forest.size();
    }

    public int restore(int slot) {
        if (!isSlot(slot)) {
            return OUT_OF_RANGE;
        }
        Forest saved = slotAt(slot);
        // A forest has at least one vertex, so a slot without one was never saved.
        if (saved.size() == 0) {
            return NOT_SAVED;
        }
        forest.copyFrom(saved);
        return forest.size();
    }

    private static boolean isValue(int number) {
        return number >= -VALUE_LIMIT && number <= VALUE_LIMIT;
    }

    private static boolean isSlot(int slot) {
        return slot == 0 || slot == 1;
    }

    private Forest slotAt(int slot) {
        return slot == 0 ? firstSlot : secondSlot;
    }

    private int pathError(int u, int v) {
        if (!forest.has(u) || !forest.has(v)) {
            return NO_SUCH_VERTEX;
        }
        return forest.rootOf(u) == forest.rootOf(v) ? NO_ERROR : NOT_CONNECTED;
    }

    private int tracePath(int u, int v) {
        int error = pathError(u, v);
        if (error == NO_ERROR) {
            path.trace(forest, u, v);
        }
        return error;
    }

    /**
     * The vertices with their parents, values and marks. It starts without a vertex.
     * Every walk to the root is counted, so that its end can be seen in its loop.
     */
    private static final class Forest {
        private int size;
        private final int[] parents;
        private final int[] values;
        private final boolean[] marks;

        Forest() {
            size = 0;
            parents = new int[MAX_VERTICES];
            values = new int[MAX_VERTICES];
            marks = new boolean[MAX_VERTICES];
        }

        int size() {
            return size;
        }

        /** The number of vertices must be 0 to MAX_VERTICES. */
        void startAnew(int vertices) {
            size = vertices;
            for (int v = 0; v < MAX_VERTICES; v++) {
                parents[v] = NO_VERTEX;
                values[v] = 0;
                marks[v] = false;
            }
        }

        void copyFrom(Forest other) {
            size = other.size;
            for (int v = 0; v < MAX_VERTICES; v++) {
                parents[v] = other.parents[v];
                values[v] = other.values[v];
                marks[v] = other.marks[v];
            }
        }

        boolean has(int vertex) {
            return vertex >= 0 && vertex < size && vertex < MAX_VERTICES;
        }

        int parentOf(int vertex) {
            return has(vertex) ? parents[vertex] : NO_VERTEX;
        }

        void putParent(int vertex, int above) {
            if (has(vertex)) {
                parents[vertex] = above;
            }
        }

        boolean isRoot(int vertex) {
            return parentOf(vertex) == NO_VERTEX;
        }

        int valueOf(int vertex) {
            return has(vertex) ? values[vertex] : 0;
        }

        void putValue(int vertex, int number) {
            if (has(vertex)) {
                values[vertex] = number;
            }
        }

        void swapValues(int a, int b) {
            int kept = valueOf(a);
            putValue(a, valueOf(b));
            putValue(b, kept);
        }

        boolean isMarked(int vertex) {
            return has(vertex) && marks[vertex];
        }

        void putMark(int vertex, boolean on) {
            if (has(vertex)) {
                marks[vertex] = on;
            }
        }

        int countRoots() {
            int roots = 0;
            for (int v = 0; v < size; v++) {
                if (isRoot(v)) {
                    roots++;
                }
            }
            return roots;
        }

        int depthOf(int vertex) {
            int edges = 0;
            int at = parentOf(vertex);
            while (edges < MAX_VERTICES && at != NO_VERTEX) {
                at = parentOf(at);
                edges++;
            }
            return edges;
        }

        int rootOf(int vertex) {
            return climb(vertex, depthOf(vertex));
        }

        /** Goes up by a number of edges, or nowhere if that number is negative. */
        int climb(int vertex, int edges) {
            int at = vertex;
            for (int i = 0; i < edges && i < MAX_VERTICES; i++) {
                at = parentOf(at);
            }
            return at;
        }

        boolean isBelow(int vertex, int top) {
            int edges = depthOf(vertex) - depthOf(top);
            return edges >= 0 && climb(vertex, edges) == top;
        }

        int countBelow(int top) {
            int count = 0;
            for (int v = 0; v < size; v++) {
                if (isBelow(v, top)) {
                    count++;
                }
            }
            return count;
        }

        /** The lowest common ancestor of two vertices of one tree. */
        int meetingPoint(int u, int v) {
            int lead = depthOf(u) - depthOf(v);
            int a = climb(u, lead);
            int b = climb(v, -lead);
            for (int i = 0; i < MAX_VERTICES && a != b; i++) {
                a = parentOf(a);
                b = parentOf(b);
            }
            return a;
        }

        int edgesBetween(int u, int v) {
            return depthOf(u) + depthOf(v) - 2 * depthOf(meetingPoint(u, v));
        }

        int farthestFrom(int vertex) {
            int top = rootOf(vertex);
            int farthest = vertex;
            int most = 0;
            for (int v = 0; v < size; v++) {
                int edges = rootOf(v) == top ? edgesBetween(vertex, v) : 0;
                if (edges > most) {
                    farthest = v;
                    most = edges;
                }
            }
            return farthest;
        }

        int nearestMarkOf(int vertex) {
            int top = rootOf(vertex);
            int nearest = NO_VERTEX;
            int least = MAX_VERTICES;
            for (int v = 0; v < size; v++) {
                boolean counts = isMarked(v) && rootOf(v) == top;
                int edges = counts ? edgesBetween(vertex, v) : MAX_VERTICES;
                if (edges < least) {
                    nearest = v;
                    least = edges;
                }
            }
            return nearest;
        }

        /** Makes a vertex the root of its tree. */
        void turnTowards(int vertex) {
            int edges = depthOf(vertex);
            int below = NO_VERTEX;
            int at = vertex;
            for (int i = 0; i <= edges; i++) {
                int above = parentOf(at);
                putParent(at, below);
                below = at;
                at = above;
            }
        }
    }

    /** The vertices of a path in their order. */
    private static final class Path {
        private final int[] vertices;
        private int length;

        Path() {
            vertices = new int[MAX_VERTICES];
            length = 0;
        }

        int length() {
            return length;
        }

        boolean hasIndex(int index) {
            return index >= 0 && index < length && index < MAX_VERTICES;
        }

        int vertexAt(int index) {
            return hasIndex(index) ? vertices[index] : NO_VERTEX;
        }

        /** Both vertices must be in one tree. */
        void trace(Forest forest, int from, int to) {
            int top = forest.meetingPoint(from, to);
            length = 0;
            appendClimb(forest, from, top);
            append(top);
            int turn = length;
            appendClimb(forest, to, top);
            reverseFrom(turn);
        }

        /** Appends the vertices from one of them up to its ancestor, without the ancestor. */
        private void appendClimb(Forest forest, int bottom, int top) {
            int at = bottom;
            for (int i = 0; i < MAX_VERTICES && at != top; i++) {
                append(at);
                at = forest.parentOf(at);
            }
        }

        private void append(int vertex) {
            if (length >= 0 && length < MAX_VERTICES) {
                vertices[length] = vertex;
                length++;
            }
        }

        private void reverseFrom(int start) {
            int low = start;
            for (int high = length - 1; high > low; high--) {
                swap(low, high);
                low++;
            }
        }

        private void swap(int i, int j) {
            if (hasIndex(i) && hasIndex(j)) {
                int kept = vertices[i];
                vertices[i] = vertices[j];
                vertices[j] = kept;
            }
        }
    }
}

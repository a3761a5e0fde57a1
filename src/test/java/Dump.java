/** What an object shows of its present state, as a text: to compare before and after a call. */
final class Dump {
    private Dump() {
    }

    static String of(DynamicForest x) {
        StringBuilder text = new StringBuilder();
        text.append("n ").append(x.vertexCount()).append(", trees ").append(x.treeCount()).append(':');
        for (int v = 0; v < x.vertexCount(); v++) {
            text.append(' ').append(v).append('^').append(x.parent(v) == DynamicForest.NONE ? "-" : "" + x.parent(v));
            text.append('=').append(x.value(v)).append(mark(x, v) ? "*" : "");
        }
        return text.toString();
    }

    /** The slots as well; the object is of no use afterwards, because a slot shows itself only when it is restored. */
    static String withSlots(DynamicForest x) {
        StringBuilder text = new StringBuilder(of(x));
        for (int slot = 0; slot < 2; slot++) {
            int answer = x.restore(slot);
            text.append("\n  slot ").append(slot).append(": ").append(answer < 0 ? "" + answer : of(x));
        }
        return text.toString();
    }

    /** The face has no call that only reads a mark, so it is set and put back. */
    static boolean mark(DynamicForest x, int vertex) {
        boolean on = x.setMark(vertex, true) == 1;
        x.setMark(vertex, on);
        return on;
    }
}
